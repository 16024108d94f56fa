def wm_X12_shellOf : List Cond := .code yX12_shellOf cX12_shellOf 3 (some .int) :: (([.fieldLink RX12 53 "TalePlayModel" "nAt" "[I", .fieldLink RX12 155 "TalePlayModel" "player" "I", .fieldLink RX12 101 "TalePlayModel" "isRoom" "[Z", .methodLink RX12 324 yX12_shuts, .instanceMethod yX12_shuts, .selects RX12 yX12_shuts yX12_shuts, .initialized RX12, .code yX12_shuts cX12_shuts 3 (some .boolean), .fieldLink RX12 98 "TalePlayModel" "isBox" "[Z", .fieldLink RX12 56 "TalePlayModel" "nOpen" "[Z", .fieldLink RX12 95 "TalePlayModel" "glass" "[Z"] : List Cond) ++ wsX120)
set_option maxRecDepth 20000 in
theorem gm_X12_shellOf_X12_shuts : GoodIn wm_X12_shellOf (wsV RX12 324 RX12 yX12_shuts wm_X12_shuts) := goodIn_w (List.forall_mem_append.mpr ⟨List.forall_mem_cons.mpr ⟨List.mem_cons_of_mem _ (List.mem_append_left _ (List.mem_of_getElem? (i := 3) rfl)), List.forall_mem_cons.mpr ⟨List.mem_cons_of_mem _ (List.mem_append_left _ (List.mem_of_getElem? (i := 4) rfl)), List.forall_mem_cons.mpr ⟨List.mem_cons_of_mem _ (List.mem_append_left _ (List.mem_of_getElem? (i := 5) rfl)), List.forall_mem_cons.mpr ⟨List.mem_cons_of_mem _ (List.mem_append_left _ (List.mem_of_getElem? (i := 6) rfl)), (fun _ h => absurd h List.not_mem_nil)⟩⟩⟩⟩, List.forall_mem_cons.mpr ⟨List.mem_cons_of_mem _ (List.mem_append_left _ (List.mem_of_getElem? (i := 7) rfl)), List.forall_mem_append.mpr ⟨List.forall_mem_cons.mpr ⟨List.mem_cons_of_mem _ (List.mem_append_left _ (List.mem_of_getElem? (i := 8) rfl)), List.forall_mem_cons.mpr ⟨List.mem_cons_of_mem _ (List.mem_append_left _ (List.mem_of_getElem? (i := 9) rfl)), List.forall_mem_cons.mpr ⟨List.mem_cons_of_mem _ (List.mem_append_left _ (List.mem_of_getElem? (i := 10) rfl)), (fun _ h => absurd h List.not_mem_nil)⟩⟩⟩, (fun _ h => List.mem_cons_of_mem _ (List.mem_append_right _ h))⟩⟩⟩) (by decide +kernel)
set_option maxHeartbeats 4000000 in
set_option maxRecDepth 100000 in
theorem s_X12_shellOf (l : Launch) (D : va_G) (sz : Nat) (o : Nat) (a : Nat → Nat) (t : Nat → ClassId) (i : Nat → Int32) (q : Int64) (c : Nat → Nat → Int32) (d : Nat → Nat → Int64) (b1 : Int32) (hI : mInv i c) (hs_T : TI (i 5).toInt (fun z => Kd (c 3) (c 6) z 0) (i 22).toInt (c 23) (c 24)) (hs_C : Cc (c 3) (c 6) (c 47) (c 48) (c 49) (i 5).toInt) : Met l yX12_shellOf wm_X12_shellOf ({ frames := 1, cells := 0, slots := 0, locals := 22 }) (va_Pc [.ref o, .int b1] (pA D sz (mW o a t i q c d) (mT t))) (va_Qi (fun (r : Int32) (_ : Unit) => ((0 ≤ r.toInt ∧ r.toInt ≤ 29) ∧ (r.toInt < (i 5).toInt ∧ Ch (nF (i 5).toInt (c 23) (c 24)) (i 22).toInt r.toInt))) oA (ro sz)) 0 0 (ro sz) := by
  refine Met.ofW (cc := cX12_shellOf) (maxL := 3) (ret := (some .int)) (by decide +kernel) rfl ?_
  intro p e s m args below meth cd s₁ B hml hv
  obtain ⟨rfl, hsz, hP, hK⟩ := hv
  have hx := B.exec
  have hb := B.bytes
  have hr := B.returns
  have hts := atoms_spec (ws := wm_X12_shellOf) B.pre
  have hown : s.vm.findClass RX12 = some m.cls := findClass_of_methodNamed B.named
  have hlocks := B.notSynchronized
  subst hsz
  have hA : ∀ q : Nat, s.heap.size ≤ q → ro s.heap.size q := fun _ h => h
  have hS : va_S (ro s.heap.size) s.heap s.heap [] := va_S.rf
  have hl := lv_entry ([.ref o, .int b1]) (n := 3) (Nat.le_of_ble_eq_true rfl)
  rw [lg_entry_eq]
  generalize (lg_sl ([.ref o, .int b1]) ++ List.replicate (3 - (lg_sl ([.ref o, .int b1])).length) Slot.unset).toArray = ls at hl ⊢
  have hl : lv_has ls 3 [(0, .ref o), (1, .int b1)] := hl
  have rb5_i : 0 ≤ (i 5).toInt ∧ (i 5).toInt ≤ 30 := hI.1 5
  have rb22_i : (i 22).toInt = -9 ∨ (0 ≤ (i 22).toInt ∧ (i 22).toInt ≤ 29) := hI.1 22
  have hTt := hs_T
  obtain ⟨⟨hp0, hp1, hp2⟩, hT2, hT3, ⟨rk, hrk⟩, rr, hq0, hq1, hq2, hq3⟩ := hTt
  have hsp : Sp (nF (i 5).toInt (c 23) (c 24)) := nF_Sp (by omega) hT2
  have hpl := TI_p hs_T
  have hpa : 0 ≤ (c 24 (i 22).toNatClampNeg).toInt ∧ (c 24 (i 22).toNatClampNeg).toInt < (i 5).toInt := hT2 _ hp0 hp1 hpl
  refine lv_aload_n hx hb dX12_shellOf_0 rfl (lv_at hl 0 rfl) ?_
  refine mget_24 hx hb hts (fun _ h => List.mem_cons_of_mem _ (List.mem_append_right _ h)) hown hK hP (hts (.fieldLink RX12 53 "TalePlayModel" "nAt" "[I") (List.mem_cons_of_mem _ (List.mem_append_left _ (List.mem_of_getElem? (i := 0) rfl)))) dX12_shellOf_1 ?_
  refine lv_aload_n hx hb dX12_shellOf_4 rfl (lv_at hl 0 rfl) ?_
  refine mget_22 (v := (i 22)) rfl hx hb hts (fun _ h => List.mem_cons_of_mem _ (List.mem_append_right _ h)) hown hK hP (hts (.fieldLink RX12 155 "TalePlayModel" "player" "I") (List.mem_cons_of_mem _ (List.mem_append_left _ (List.mem_of_getElem? (i := 1) rfl)))) dX12_shellOf_5 ?_
  refine mld_24 hx hb hK hP (vp_in_iff.mpr (by have h9 : (i 22).toInt = (i 22).toInt := rfl; omega)) dX12_shellOf_8 (fun x1 ex1 => ?_)
  have rx1 : x1.toInt = -9 ∨ (0 ≤ x1.toInt ∧ x1.toInt ≤ 29) := by rw [ex1]; exact hI.2 24 _
  have gx1 : (c 24 ((i 22) : Int32).toNatClampNeg).toInt = x1.toInt := by rw [ex1]
  have hnp : nF (i 5).toInt (c 23) (c 24) (i 22).toInt = x1.toInt := by unfold nF; rw [if_pos ⟨hp0, hp1, hpl⟩]; exact gx1
  refine lv_istore_n (lv' := [(2, .int x1), (0, .ref o), (1, .int b1)]) hx hb dX12_shellOf_9 rfl hl (by decide +kernel) rfl (fun ls hl => ?_)
  have lp2 : ∀ (fu : Nat) (y2_2 : Int32), (0 ≤ y2_2.toInt ∧ y2_2.toInt ≤ 29) → (y2_2.toInt < (i 5).toInt ∧ Ch (nF (i 5).toInt (c 23) (c 24)) (i 22).toInt y2_2.toInt) → (Ch (nF (i 5).toInt (c 23) (c 24)) y2_2.toInt rr) → rk y2_2.toInt < fu → ∀ (H : Heap) (locs : List Loc) (ls : Array Slot), va_P D vwCl (mW o a t i q c d) H → va_S (ro s.heap.size) s.heap H locs → lv_has ls 3 [(2, .int y2_2), (0, .ref o), (1, .int b1)] → W p l e (headSpec wm_X12_shellOf ({ frames := 1, cells := 0, slots := 0, locals := 22 })).room s m ([.ref o, .int b1] : List Value).toArray below meth cd H locs 0 0 (MQ below (va_Qi (fun (r : Int32) (_ : Unit) => ((0 ≤ r.toInt ∧ r.toInt ≤ 29) ∧ (r.toInt < (i 5).toInt ∧ Ch (nF (i 5).toInt (c 23) (c 24)) (i 22).toInt r.toInt))) oA (ro s.heap.size)) ([.ref o, .int b1] : List Value).toArray s 0 0 (ro s.heap.size)) (F0 m 10 ls []) := by
    intro fu
    induction fu with
    | zero => intro y2_2 hy2_2 hz2_0 hz2_1 hm; exact absurd hm (Nat.not_lt_zero _)
    | succ fu ih =>
      intro y2_2 hy2_2 hz2_0 hz2_1 hm H locs ls hP hS hl
      have ih2 := ih
      refine lv_aload_n hx hb dX12_shellOf_10 rfl (lv_at hl 1 rfl) ?_
      refine mget_48 hx hb hts (fun _ h => List.mem_cons_of_mem _ (List.mem_append_right _ h)) hown hK hP (hts (.fieldLink RX12 101 "TalePlayModel" "isRoom" "[Z") (List.mem_cons_of_mem _ (List.mem_append_left _ (List.mem_of_getElem? (i := 2) rfl)))) dX12_shellOf_11 ?_
      refine lv_iload_n hx hb dX12_shellOf_14 rfl (lv_at hl 0 rfl) ?_
      refine mld_48 hx hb hK hP (vp_in_iff.mpr (by have h9 : y2_2.toInt = y2_2.toInt := rfl; omega)) dX12_shellOf_15 (fun x3 ex3 => ?_)
      have rx3 : 0 ≤ x3.toInt ∧ x3.toInt ≤ 1 := by rw [ex3]; exact hI.2 48 _
      have gx3 : (c 48 (y2_2 : Int32).toNatClampNeg).toInt = x3.toInt := by rw [ex3]
      refine lv_if_ne (tgt := 38) hx hb dX12_shellOf_16 (by decide +kernel) (fun c4 => ?_) (fun c4 => ?_)
      · have f4 := mt (ti_eq (a := x3.toInt) (b := 0) rfl (by decide +kernel)).mpr c4
        refine lv_iload_n hx hb dX12_shellOf_38 rfl (lv_at hl 0 rfl) ?_
        exact ro_iret hx hb hr hlocks hS dX12_shellOf_39 ⟨(show 0 ≤ y2_2.toInt ∧ y2_2.toInt ≤ 29 from by omega), (show y2_2.toInt < (i 5).toInt ∧ Ch (nF (i 5).toInt (c 23) (c 24)) (i 22).toInt y2_2.toInt from hz2_0)⟩
      · have f4 := (ti_eq (a := x3.toInt) (b := 0) rfl (by decide +kernel)).mp c4
        refine lv_aload_n hx hb dX12_shellOf_19 rfl (lv_at hl 1 rfl) ?_
        refine lv_iload_n hx hb dX12_shellOf_20 rfl (lv_at hl 0 rfl) ?_
        refine lv_iload_n hx hb dX12_shellOf_21 rfl (lv_at hl 2 rfl) ?_
        refine ro_calli (va_runV (As := [.int y2_2, .int b1]) (rest := []) ⟨hx, hb, hml, hown, hts⟩ (s_X12_shuts l D H.size o a t i q c d y2_2 b1 hI (show 0 ≤ y2_2.toInt ∧ y2_2.toInt ≤ 29 from by omega)) (cwV 2 hts gm_X12_shellOf_X12_shuts rfl rfl rfl (by decide +kernel) ⟨Nat.le_of_ble_eq_true rfl, Nat.le_of_ble_eq_true rfl⟩) (pA_V hK hP (ci := 12) (q0 := 0) rfl rfl) rfl rfl hl.1 rfl (lv_room (Nat.le_of_ble_eq_true rfl)) dX12_shellOf_22 ⟨Nat.le_of_ble_eq_true rfl, Nat.le_of_ble_eq_true rfl⟩) hS hA hP (fun r5 u5 H locs hw5 hP hS => ?_)
        have hw5 : (0 ≤ r5.toInt ∧ r5.toInt ≤ 1) := hw5
        refine lv_if_ne (tgt := 38) hx hb dX12_shellOf_25 (by decide +kernel) (fun c6 => ?_) (fun c6 => ?_)
        · have f6 := mt (ti_eq (a := r5.toInt) (b := 0) rfl (by decide +kernel)).mpr c6
          refine lv_iload_n hx hb dX12_shellOf_38 rfl (lv_at hl 0 rfl) ?_
          exact ro_iret hx hb hr hlocks hS dX12_shellOf_39 ⟨(show 0 ≤ y2_2.toInt ∧ y2_2.toInt ≤ 29 from by omega), (show y2_2.toInt < (i 5).toInt ∧ Ch (nF (i 5).toInt (c 23) (c 24)) (i 22).toInt y2_2.toInt from hz2_0)⟩
        · have f6 := (ti_eq (a := r5.toInt) (b := 0) rfl (by decide +kernel)).mp c6
          refine lv_aload_n hx hb dX12_shellOf_28 rfl (lv_at hl 1 rfl) ?_
          refine mget_24 hx hb hts (fun _ h => List.mem_cons_of_mem _ (List.mem_append_right _ h)) hown hK hP (hts (.fieldLink RX12 53 "TalePlayModel" "nAt" "[I") (List.mem_cons_of_mem _ (List.mem_append_left _ (List.mem_of_getElem? (i := 0) rfl)))) dX12_shellOf_29 ?_
          refine lv_iload_n hx hb dX12_shellOf_32 rfl (lv_at hl 0 rfl) ?_
          refine mld_24 hx hb hK hP (vp_in_iff.mpr (by have h9 : y2_2.toInt = y2_2.toInt := rfl; omega)) dX12_shellOf_33 (fun x7 ex7 => ?_)
          have rx7 : x7.toInt = -9 ∨ (0 ≤ x7.toInt ∧ x7.toInt ≤ 29) := by rw [ex7]; exact hI.2 24 _
          have gx7 : (c 24 (y2_2 : Int32).toNatClampNeg).toInt = x7.toInt := by rw [ex7]
          refine lv_istore_n (lv' := [(2, .int x7), (0, .ref o), (1, .int b1)]) hx hb dX12_shellOf_34 rfl hl (by decide +kernel) rfl (fun ls hl => ?_)
          have hnr : ¬ Kd (c 3) (c 6) y2_2.toInt 0 := (hs_C y2_2.toInt (by omega) (by omega)).1 (by show (c 48 y2_2.toNatClampNeg).toInt = 0; omega)
          have hch := (Ch_nx (f := nF (i 5).toInt (c 23) (c 24)) (fun e => hnr (by rw [e]; exact hq2))).mp hz2_1
          have hny : ¬ nF (i 5).toInt (c 23) (c 24) y2_2.toInt = -9 := fun e => by rw [e] at hch; have h8 := Ch_nd hsp.1 hch; omega
          obtain ⟨hn, hax, hbx⟩ := T_st hT2 (y := y2_2) (by omega) rfl (nF_ne hny).2.2 ex7
          have hk := hrk.2 y2_2.toInt (by omega) (by omega) hny
          rw [hn] at hk hch
          refine lv_goto (tgt := 10) hx hb dX12_shellOf_35 (by decide +kernel) ?_
          exact ih2 x7 (show 0 ≤ x7.toInt ∧ x7.toInt ≤ 29 from by omega) (show x7.toInt < (i 5).toInt ∧ Ch (nF (i 5).toInt (c 23) (c 24)) (i 22).toInt x7.toInt from ⟨by omega, Ch_tr hz2_0.2 (Ch_up (by rw [hn]; exact Ch_rf))⟩) (show Ch (nF (i 5).toInt (c 23) (c 24)) x7.toInt rr from hch) (by omega) _ _ _ hP hS (lv_sub hl [0, 1, 2] rfl)
  exact lp2 _ x1 (show 0 ≤ x1.toInt ∧ x1.toInt ≤ 29 from by omega) (show x1.toInt < (i 5).toInt ∧ Ch (nF (i 5).toInt (c 23) (c 24)) (i 22).toInt x1.toInt from ⟨by omega, Ch_up (by rw [hnp]; exact Ch_rf)⟩) (show Ch (nF (i 5).toInt (c 23) (c 24)) x1.toInt rr from by rw [← hnp]; exact (Ch_nx (fun e => hp2 (by rw [e]; exact hq2))).mp hq3) (Nat.lt_succ_self _) _ _ _ hP hS (lv_sub hl [0, 1, 2] rfl)

def wm_X12_isInView : List Cond := .code yX12_isInView cX12_isInView 5 (some .boolean) :: ((([.fieldLink RX12 155 "TalePlayModel" "player" "I", .fieldLink RX12 98 "TalePlayModel" "isBox" "[Z", .fieldLink RX12 104 "TalePlayModel" "isDoor" "[Z", .fieldLink RX12 50 "TalePlayModel" "nForm" "[I", .fieldLink RX12 53 "TalePlayModel" "nAt" "[I", .methodLink RX12 324 yX12_shuts, .instanceMethod yX12_shuts, .selects RX12 yX12_shuts yX12_shuts, .initialized RX12, .code yX12_shuts cX12_shuts 3 (some .boolean), .fieldLink RX12 56 "TalePlayModel" "nOpen" "[Z", .fieldLink RX12 95 "TalePlayModel" "glass" "[Z", .fieldLink RX12 101 "TalePlayModel" "isRoom" "[Z", .methodLink RX12 328 yX12_isSide, .instanceMethod yX12_isSide, .selects RX12 yX12_isSide yX12_isSide] : List Cond) ++ ([.code yX12_isSide cX12_isSide 4 (some .boolean), .fieldLink RX12 202 "TalePlayModel" "sentences" "I", .fieldLink RX12 37 "TalePlayModel" "isSaid" "[Z", .fieldLink RX12 25 "TalePlayModel" "form" "[I", .fieldLink RX12 31 "TalePlayModel" "middle" "[I", .fieldLink RX12 28 "TalePlayModel" "left" "[I"] : List Cond)) ++ wsX120)
set_option maxRecDepth 20000 in
theorem gm_X12_isInView_X12_shuts : GoodIn wm_X12_isInView (wsV RX12 324 RX12 yX12_shuts wm_X12_shuts) := goodIn_w (List.forall_mem_append.mpr ⟨List.forall_mem_cons.mpr ⟨List.mem_cons_of_mem _ (List.mem_append_left _ (List.mem_append_left _ (List.mem_of_getElem? (i := 5) rfl))), List.forall_mem_cons.mpr ⟨List.mem_cons_of_mem _ (List.mem_append_left _ (List.mem_append_left _ (List.mem_of_getElem? (i := 6) rfl))), List.forall_mem_cons.mpr ⟨List.mem_cons_of_mem _ (List.mem_append_left _ (List.mem_append_left _ (List.mem_of_getElem? (i := 7) rfl))), List.forall_mem_cons.mpr ⟨List.mem_cons_of_mem _ (List.mem_append_left _ (List.mem_append_left _ (List.mem_of_getElem? (i := 8) rfl))), (fun _ h => absurd h List.not_mem_nil)⟩⟩⟩⟩, List.forall_mem_cons.mpr ⟨List.mem_cons_of_mem _ (List.mem_append_left _ (List.mem_append_left _ (List.mem_of_getElem? (i := 9) rfl))), List.forall_mem_append.mpr ⟨List.forall_mem_cons.mpr ⟨List.mem_cons_of_mem _ (List.mem_append_left _ (List.mem_append_left _ (List.mem_of_getElem? (i := 1) rfl))), List.forall_mem_cons.mpr ⟨List.mem_cons_of_mem _ (List.mem_append_left _ (List.mem_append_left _ (List.mem_of_getElem? (i := 10) rfl))), List.forall_mem_cons.mpr ⟨List.mem_cons_of_mem _ (List.mem_append_left _ (List.mem_append_left _ (List.mem_of_getElem? (i := 11) rfl))), (fun _ h => absurd h List.not_mem_nil)⟩⟩⟩, (fun _ h => List.mem_cons_of_mem _ (List.mem_append_right _ h))⟩⟩⟩) (by decide +kernel)
set_option maxRecDepth 20000 in
theorem gm_X12_isInView_X12_isSide : GoodIn wm_X12_isInView (wsV RX12 328 RX12 yX12_isSide wm_X12_isSide) := goodIn_w (List.forall_mem_append.mpr ⟨List.forall_mem_cons.mpr ⟨List.mem_cons_of_mem _ (List.mem_append_left _ (List.mem_append_left _ (List.mem_of_getElem? (i := 13) rfl))), List.forall_mem_cons.mpr ⟨List.mem_cons_of_mem _ (List.mem_append_left _ (List.mem_append_left _ (List.mem_of_getElem? (i := 14) rfl))), List.forall_mem_cons.mpr ⟨List.mem_cons_of_mem _ (List.mem_append_left _ (List.mem_append_left _ (List.mem_of_getElem? (i := 15) rfl))), List.forall_mem_cons.mpr ⟨List.mem_cons_of_mem _ (List.mem_append_left _ (List.mem_append_left _ (List.mem_of_getElem? (i := 8) rfl))), (fun _ h => absurd h List.not_mem_nil)⟩⟩⟩⟩, List.forall_mem_cons.mpr ⟨List.mem_cons_of_mem _ (List.mem_append_left _ (List.mem_append_right _ (List.mem_of_getElem? (i := 0) rfl))), List.forall_mem_append.mpr ⟨List.forall_mem_cons.mpr ⟨List.mem_cons_of_mem _ (List.mem_append_left _ (List.mem_append_right _ (List.mem_of_getElem? (i := 1) rfl))), List.forall_mem_cons.mpr ⟨List.mem_cons_of_mem _ (List.mem_append_left _ (List.mem_append_right _ (List.mem_of_getElem? (i := 2) rfl))), List.forall_mem_cons.mpr ⟨List.mem_cons_of_mem _ (List.mem_append_left _ (List.mem_append_right _ (List.mem_of_getElem? (i := 3) rfl))), List.forall_mem_cons.mpr ⟨List.mem_cons_of_mem _ (List.mem_append_left _ (List.mem_append_right _ (List.mem_of_getElem? (i := 4) rfl))), List.forall_mem_cons.mpr ⟨List.mem_cons_of_mem _ (List.mem_append_left _ (List.mem_append_right _ (List.mem_of_getElem? (i := 5) rfl))), (fun _ h => absurd h List.not_mem_nil)⟩⟩⟩⟩⟩, (fun _ h => List.mem_cons_of_mem _ (List.mem_append_right _ h))⟩⟩⟩) (by decide +kernel)
set_option maxHeartbeats 4000000 in
set_option maxRecDepth 100000 in
theorem s_X12_isInView (l : Launch) (D : va_G) (sz : Nat) (o : Nat) (a : Nat → Nat) (t : Nat → ClassId) (i : Nat → Int32) (q : Int64) (c : Nat → Nat → Int32) (d : Nat → Nat → Int64) (w : Int32) (s1 : Int32) (b1 : Int32) (hI : mInv i c) (hw : 0 ≤ w.toInt ∧ w.toInt < (i 5).toInt) (hs1 : 0 ≤ s1.toInt ∧ s1.toInt < (i 5).toInt) (hs_T : TI (i 5).toInt (fun z => Kd (c 3) (c 6) z 0) (i 22).toInt (c 23) (c 24)) : Met l yX12_isInView wm_X12_isInView ({ frames := 1, cells := 0, slots := 0, locals := 23 }) (va_Pc [.ref o, .int w, .int s1, .int b1] (pA D sz (mW o a t i q c d) (mT t))) (va_Qi (fun (r : Int32) (_ : Unit) => ((0 ≤ r.toInt ∧ r.toInt ≤ 1) ∧ (Im (r.toInt = 1) (w.toInt = (i 22).toInt ∨ (c 49 w.toNatClampNeg).toInt = 1 ∨ Ch (nF (i 5).toInt (c 23) (c 24)) w.toInt s1.toInt)))) oA (ro sz)) 0 0 (ro sz) := by
  refine Met.ofW (cc := cX12_isInView) (maxL := 5) (ret := (some .boolean)) (by decide +kernel) rfl ?_
  intro p e s m args below meth cd s₁ B hml hv
  obtain ⟨rfl, hsz, hP, hK⟩ := hv
  have hx := B.exec
  have hb := B.bytes
  have hr := B.returns
  have hts := atoms_spec (ws := wm_X12_isInView) B.pre
  have hown : s.vm.findClass RX12 = some m.cls := findClass_of_methodNamed B.named
  have hlocks := B.notSynchronized
  subst hsz
  have hA : ∀ q : Nat, s.heap.size ≤ q → ro s.heap.size q := fun _ h => h
  have hS : va_S (ro s.heap.size) s.heap s.heap [] := va_S.rf
  have hl := lv_entry ([.ref o, .int w, .int s1, .int b1]) (n := 5) (Nat.le_of_ble_eq_true rfl)
  rw [lg_entry_eq]
  generalize (lg_sl ([.ref o, .int w, .int s1, .int b1]) ++ List.replicate (5 - (lg_sl ([.ref o, .int w, .int s1, .int b1])).length) Slot.unset).toArray = ls at hl ⊢
  have hl : lv_has ls 5 [(0, .ref o), (1, .int w), (2, .int s1), (3, .int b1)] := hl
  have rb5_i : 0 ≤ (i 5).toInt ∧ (i 5).toInt ≤ 30 := hI.1 5
  have rb22_i : (i 22).toInt = -9 ∨ (0 ≤ (i 22).toInt ∧ (i 22).toInt ≤ 29) := hI.1 22
  have hTt := hs_T
  obtain ⟨⟨hp0, hp1, hp2⟩, hT2, hT3, ⟨rk, hrk⟩, rr, hq0, hq1, hq2, hq3⟩ := hTt
  have hsp : Sp (nF (i 5).toInt (c 23) (c 24)) := nF_Sp (by omega) hT2
  have hpl := TI_p hs_T
  have hpa : 0 ≤ (c 24 (i 22).toNatClampNeg).toInt ∧ (c 24 (i 22).toNatClampNeg).toInt < (i 5).toInt := hT2 _ hp0 hp1 hpl
  refine lv_iload_n hx hb dX12_isInView_0 rfl (lv_at hl 1 rfl) ?_
  refine lv_aload_n hx hb dX12_isInView_1 rfl (lv_at hl 0 rfl) ?_
  refine mget_22 (v := (i 22)) rfl hx hb hts (fun _ h => List.mem_cons_of_mem _ (List.mem_append_right _ h)) hown hK hP (hts (.fieldLink RX12 155 "TalePlayModel" "player" "I") (List.mem_cons_of_mem _ (List.mem_append_left _ (List.mem_append_left _ (List.mem_of_getElem? (i := 0) rfl))))) dX12_isInView_2 ?_
  refine lv_icmp_eq (tgt := 13) hx hb dX12_isInView_5 (by decide +kernel) (fun c1 => ?_) (fun c1 => ?_)
  · have f1 := (ti_eq (a := w.toInt) (b := (i 22).toInt) rfl rfl).mp c1
    refine lv_iload_n hx hb dX12_isInView_13 rfl (lv_at hl 1 rfl) ?_
    refine lv_aload_n hx hb dX12_isInView_14 rfl (lv_at hl 0 rfl) ?_
    refine mget_22 (v := (i 22)) rfl hx hb hts (fun _ h => List.mem_cons_of_mem _ (List.mem_append_right _ h)) hown hK hP (hts (.fieldLink RX12 155 "TalePlayModel" "player" "I") (List.mem_cons_of_mem _ (List.mem_append_left _ (List.mem_append_left _ (List.mem_of_getElem? (i := 0) rfl))))) dX12_isInView_15 ?_
    refine lv_icmp_eq (tgt := 30) hx hb dX12_isInView_18 (by decide +kernel) (fun c2 => ?_) (fun c2 => ?_)
    · have f2 := (ti_eq (a := w.toInt) (b := (i 22).toInt) rfl rfl).mp c2
      refine lv_iconst (v := 1) hx hb dX12_isInView_30 (by decide +kernel) ?_
      refine lv_goto (tgt := 35) hx hb dX12_isInView_31 (by decide +kernel) ?_
      exact ro_zret hx hb hr hlocks hS rfl dX12_isInView_35 ⟨(show 0 ≤ (1 : Int32).toInt ∧ (1 : Int32).toInt ≤ 1 from by decide +kernel), (show Im ((1 : Int32).toInt = 1) (w.toInt = (i 22).toInt ∨ (c 49 w.toNatClampNeg).toInt = 1 ∨ Ch (nF (i 5).toInt (c 23) (c 24)) w.toInt s1.toInt) from fun _ => by first | exact Or.inl (by omega) | exact Or.inr (Or.inl (by omega)) | exact Or.inr (Or.inr (by rw [show w.toInt = s1.toInt by omega]; exact Ch_rf)))⟩
    · have f2 := mt (ti_eq (a := w.toInt) (b := (i 22).toInt) rfl rfl).mpr c2
      refine lv_aload_n hx hb dX12_isInView_21 rfl (lv_at hl 0 rfl) ?_
      refine mget_47 hx hb hts (fun _ h => List.mem_cons_of_mem _ (List.mem_append_right _ h)) hown hK hP (hts (.fieldLink RX12 98 "TalePlayModel" "isBox" "[Z") (List.mem_cons_of_mem _ (List.mem_append_left _ (List.mem_append_left _ (List.mem_of_getElem? (i := 1) rfl))))) dX12_isInView_22 ?_
      refine lv_iload_n hx hb dX12_isInView_25 rfl (lv_at hl 2 rfl) ?_
      refine mld_47 hx hb hK hP (vp_in_iff.mpr (by have h9 : s1.toInt = s1.toInt := rfl; omega)) dX12_isInView_26 (fun x3 ex3 => ?_)
      have rx3 : 0 ≤ x3.toInt ∧ x3.toInt ≤ 1 := by rw [ex3]; exact hI.2 47 _
      refine lv_if_eq (tgt := 34) hx hb dX12_isInView_27 (by decide +kernel) (fun c4 => ?_) (fun c4 => ?_)
      · have f4 := (ti_eq (a := x3.toInt) (b := 0) rfl (by decide +kernel)).mp c4
        refine lv_iconst (v := 0) hx hb dX12_isInView_34 (by decide +kernel) ?_
        exact ro_zret hx hb hr hlocks hS rfl dX12_isInView_35 ⟨(show 0 ≤ (0 : Int32).toInt ∧ (0 : Int32).toInt ≤ 1 from by decide +kernel), (show Im ((0 : Int32).toInt = 1) (w.toInt = (i 22).toInt ∨ (c 49 w.toNatClampNeg).toInt = 1 ∨ Ch (nF (i 5).toInt (c 23) (c 24)) w.toInt s1.toInt) from fun h9 => absurd h9 (by decide +kernel))⟩
      · have f4 := mt (ti_eq (a := x3.toInt) (b := 0) rfl (by decide +kernel)).mpr c4
        refine lv_iconst (v := 1) hx hb dX12_isInView_30 (by decide +kernel) ?_
        refine lv_goto (tgt := 35) hx hb dX12_isInView_31 (by decide +kernel) ?_
        exact ro_zret hx hb hr hlocks hS rfl dX12_isInView_35 ⟨(show 0 ≤ (1 : Int32).toInt ∧ (1 : Int32).toInt ≤ 1 from by decide +kernel), (show Im ((1 : Int32).toInt = 1) (w.toInt = (i 22).toInt ∨ (c 49 w.toNatClampNeg).toInt = 1 ∨ Ch (nF (i 5).toInt (c 23) (c 24)) w.toInt s1.toInt) from fun _ => by first | exact Or.inl (by omega) | exact Or.inr (Or.inl (by omega)) | exact Or.inr (Or.inr (by rw [show w.toInt = s1.toInt by omega]; exact Ch_rf)))⟩
  · have f1 := mt (ti_eq (a := w.toInt) (b := (i 22).toInt) rfl rfl).mpr c1
    refine lv_iload_n hx hb dX12_isInView_8 rfl (lv_at hl 1 rfl) ?_
    refine lv_iload_n hx hb dX12_isInView_9 rfl (lv_at hl 2 rfl) ?_
    refine lv_icmp_ne (tgt := 36) hx hb dX12_isInView_10 (by decide +kernel) (fun c5 => ?_) (fun c5 => ?_)
    · have f5 := mt (ti_eq (a := w.toInt) (b := s1.toInt) rfl rfl).mpr c5
      refine lv_aload_n hx hb dX12_isInView_36 rfl (lv_at hl 0 rfl) ?_
      refine mget_49 hx hb hts (fun _ h => List.mem_cons_of_mem _ (List.mem_append_right _ h)) hown hK hP (hts (.fieldLink RX12 104 "TalePlayModel" "isDoor" "[Z") (List.mem_cons_of_mem _ (List.mem_append_left _ (List.mem_append_left _ (List.mem_of_getElem? (i := 2) rfl))))) dX12_isInView_37 ?_
      refine lv_iload_n hx hb dX12_isInView_40 rfl (lv_at hl 1 rfl) ?_
      refine mld_49 hx hb hK hP (vp_in_iff.mpr (by have h9 : w.toInt = w.toInt := rfl; omega)) dX12_isInView_41 (fun x6 ex6 => ?_)
      have rx6 : 0 ≤ x6.toInt ∧ x6.toInt ≤ 1 := by rw [ex6]; exact hI.2 49 _
      have gx6 : (c 49 (w : Int32).toNatClampNeg).toInt = x6.toInt := by rw [ex6]
      refine lv_if_eq (tgt := 69) hx hb dX12_isInView_42 (by decide +kernel) (fun c7 => ?_) (fun c7 => ?_)
      · have f7 := (ti_eq (a := x6.toInt) (b := 0) rfl (by decide +kernel)).mp c7
        refine lv_iload_n hx hb dX12_isInView_69 rfl (lv_at hl 1 rfl) ?_
        refine lv_istore (lv' := [(4, .int w), (0, .ref o), (1, .int w), (2, .int s1), (3, .int b1)]) hx hb dX12_isInView_70 hl (by decide +kernel) rfl (fun ls hl => ?_)
        have lp8 : ∀ (fu : Nat) (y8_4 : Int32), (0 ≤ y8_4.toInt ∧ y8_4.toInt ≤ 29) → (y8_4.toInt < (i 5).toInt) → (Ch (nF (i 5).toInt (c 23) (c 24)) w.toInt y8_4.toInt) → rk y8_4.toInt < fu → ∀ (H : Heap) (locs : List Loc) (ls : Array Slot), va_P D vwCl (mW o a t i q c d) H → va_S (ro s.heap.size) s.heap H locs → lv_has ls 5 [(4, .int y8_4), (0, .ref o), (1, .int w), (2, .int s1), (3, .int b1)] → W p l e (headSpec wm_X12_isInView ({ frames := 1, cells := 0, slots := 0, locals := 23 })).room s m ([.ref o, .int w, .int s1, .int b1] : List Value).toArray below meth cd H locs 0 0 (MQ below (va_Qi (fun (r : Int32) (_ : Unit) => ((0 ≤ r.toInt ∧ r.toInt ≤ 1) ∧ (Im (r.toInt = 1) (w.toInt = (i 22).toInt ∨ (c 49 w.toNatClampNeg).toInt = 1 ∨ Ch (nF (i 5).toInt (c 23) (c 24)) w.toInt s1.toInt)))) oA (ro s.heap.size)) ([.ref o, .int w, .int s1, .int b1] : List Value).toArray s 0 0 (ro s.heap.size)) (F0 m 72 ls []) := by
          intro fu
          induction fu with
          | zero => intro y8_4 hy8_4 hz8_0 hz8_1 hm; exact absurd hm (Nat.not_lt_zero _)
          | succ fu ih =>
            intro y8_4 hy8_4 hz8_0 hz8_1 hm H locs ls hP hS hl
            have ih8 := ih
            refine lv_aload_n hx hb dX12_isInView_72 rfl (lv_at hl 1 rfl) ?_
            refine mget_23 hx hb hts (fun _ h => List.mem_cons_of_mem _ (List.mem_append_right _ h)) hown hK hP (hts (.fieldLink RX12 50 "TalePlayModel" "nForm" "[I") (List.mem_cons_of_mem _ (List.mem_append_left _ (List.mem_append_left _ (List.mem_of_getElem? (i := 3) rfl))))) dX12_isInView_73 ?_
            refine lv_iload hx hb dX12_isInView_76 (lv_at hl 0 rfl) ?_
            refine mld_23 hx hb hK hP (vp_in_iff.mpr (by have h9 : y8_4.toInt = y8_4.toInt := rfl; omega)) dX12_isInView_78 (fun x9 ex9 => ?_)
            have rx9 : x9.toInt = -9 ∨ (0 ≤ x9.toInt ∧ x9.toInt ≤ 4) := by rw [ex9]; exact hI.2 23 _
            have gx9 : (c 23 (y8_4 : Int32).toNatClampNeg).toInt = x9.toInt := by rw [ex9]
            refine lv_bipush (v := (-9)) hx hb dX12_isInView_79 (by decide +kernel) ?_
            refine lv_icmp_eq (tgt := 113) hx hb dX12_isInView_81 (by decide +kernel) (fun c10 => ?_) (fun c10 => ?_)
            · have f10 := (ti_eq (a := x9.toInt) (b := (-9)) rfl (by decide +kernel)).mp c10
              refine lv_iconst (v := 0) hx hb dX12_isInView_113 (by decide +kernel) ?_
              exact ro_zret hx hb hr hlocks hS rfl dX12_isInView_114 ⟨(show 0 ≤ (0 : Int32).toInt ∧ (0 : Int32).toInt ≤ 1 from by decide +kernel), (show Im ((0 : Int32).toInt = 1) (w.toInt = (i 22).toInt ∨ (c 49 w.toNatClampNeg).toInt = 1 ∨ Ch (nF (i 5).toInt (c 23) (c 24)) w.toInt s1.toInt) from fun h9 => absurd h9 (by decide +kernel))⟩
            · have f10 := mt (ti_eq (a := x9.toInt) (b := (-9)) rfl (by decide +kernel)).mpr c10
              refine lv_aload_n hx hb dX12_isInView_84 rfl (lv_at hl 1 rfl) ?_
              refine mget_24 hx hb hts (fun _ h => List.mem_cons_of_mem _ (List.mem_append_right _ h)) hown hK hP (hts (.fieldLink RX12 53 "TalePlayModel" "nAt" "[I") (List.mem_cons_of_mem _ (List.mem_append_left _ (List.mem_append_left _ (List.mem_of_getElem? (i := 4) rfl))))) dX12_isInView_85 ?_
              refine lv_iload hx hb dX12_isInView_88 (lv_at hl 0 rfl) ?_
              refine mld_24 hx hb hK hP (vp_in_iff.mpr (by have h9 : y8_4.toInt = y8_4.toInt := rfl; omega)) dX12_isInView_90 (fun x11 ex11 => ?_)
              have rx11 : x11.toInt = -9 ∨ (0 ≤ x11.toInt ∧ x11.toInt ≤ 29) := by rw [ex11]; exact hI.2 24 _
              have gx11 : (c 24 (y8_4 : Int32).toNatClampNeg).toInt = x11.toInt := by rw [ex11]
              obtain ⟨hn, hax, hbx⟩ := T_st hT2 (y := y8_4) (by omega) ex9 (by omega) ex11
              have hk := hrk.2 y8_4.toInt (by omega) (by omega) (by rw [hn]; omega)
              rw [hn] at hk
              have hcw : Ch (nF (i 5).toInt (c 23) (c 24)) w.toInt x11.toInt := Ch_tr hz8_1 (Ch_up (by rw [hn]; exact Ch_rf))
              refine lv_istore (lv' := [(4, .int x11), (0, .ref o), (1, .int w), (2, .int s1), (3, .int b1)]) hx hb dX12_isInView_91 hl (by decide +kernel) rfl (fun ls hl => ?_)
              refine lv_iload hx hb dX12_isInView_93 (lv_at hl 0 rfl) ?_
              refine lv_iload_n hx hb dX12_isInView_95 rfl (lv_at hl 3 rfl) ?_
              refine lv_icmp_ne (tgt := 101) hx hb dX12_isInView_96 (by decide +kernel) (fun c12 => ?_) (fun c12 => ?_)
              · have f12 := mt (ti_eq (a := x11.toInt) (b := s1.toInt) rfl rfl).mpr c12
                refine lv_aload_n hx hb dX12_isInView_101 rfl (lv_at hl 1 rfl) ?_
                refine lv_iload hx hb dX12_isInView_102 (lv_at hl 0 rfl) ?_
                refine lv_iload_n hx hb dX12_isInView_104 rfl (lv_at hl 4 rfl) ?_
                refine ro_calli (va_runV (As := [.int x11, .int b1]) (rest := []) ⟨hx, hb, hml, hown, hts⟩ (s_X12_shuts l D H.size o a t i q c d x11 b1 hI (show 0 ≤ x11.toInt ∧ x11.toInt ≤ 29 from by omega)) (cwV 2 hts gm_X12_isInView_X12_shuts rfl rfl rfl (by decide +kernel) ⟨Nat.le_of_ble_eq_true rfl, Nat.le_of_ble_eq_true rfl⟩) (pA_V hK hP (ci := 12) (q0 := 0) rfl rfl) rfl rfl hl.1 rfl (lv_room (Nat.le_of_ble_eq_true rfl)) dX12_isInView_105 ⟨Nat.le_of_ble_eq_true rfl, Nat.le_of_ble_eq_true rfl⟩) hS hA hP (fun r13 u13 H locs hw13 hP hS => ?_)
                have hw13 : (0 ≤ r13.toInt ∧ r13.toInt ≤ 1) := hw13
                refine lv_if_eq (tgt := 72) hx hb dX12_isInView_108 (by decide +kernel) (fun c14 => ?_) (fun c14 => ?_)
                · have f14 := (ti_eq (a := r13.toInt) (b := 0) rfl (by decide +kernel)).mp c14
                  exact ih8 x11 (show 0 ≤ x11.toInt ∧ x11.toInt ≤ 29 from by omega) (show x11.toInt < (i 5).toInt from by omega) (show Ch (nF (i 5).toInt (c 23) (c 24)) w.toInt x11.toInt from hcw) (by omega) _ _ _ hP hS (lv_sub hl [0, 1, 2, 3, 4] rfl)
                · have f14 := mt (ti_eq (a := r13.toInt) (b := 0) rfl (by decide +kernel)).mpr c14
                  refine lv_iconst (v := 0) hx hb dX12_isInView_111 (by decide +kernel) ?_
                  exact ro_zret hx hb hr hlocks hS rfl dX12_isInView_112 ⟨(show 0 ≤ (0 : Int32).toInt ∧ (0 : Int32).toInt ≤ 1 from by decide +kernel), (show Im ((0 : Int32).toInt = 1) (w.toInt = (i 22).toInt ∨ (c 49 w.toNatClampNeg).toInt = 1 ∨ Ch (nF (i 5).toInt (c 23) (c 24)) w.toInt s1.toInt) from fun h9 => absurd h9 (by decide +kernel))⟩
              · have f12 := (ti_eq (a := x11.toInt) (b := s1.toInt) rfl rfl).mp c12
                refine lv_iconst (v := 1) hx hb dX12_isInView_99 (by decide +kernel) ?_
                exact ro_zret hx hb hr hlocks hS rfl dX12_isInView_100 ⟨(show 0 ≤ (1 : Int32).toInt ∧ (1 : Int32).toInt ≤ 1 from by decide +kernel), (show Im ((1 : Int32).toInt = 1) (w.toInt = (i 22).toInt ∨ (c 49 w.toNatClampNeg).toInt = 1 ∨ Ch (nF (i 5).toInt (c 23) (c 24)) w.toInt s1.toInt) from fun _ => Or.inr (Or.inr (by rw [show s1.toInt = x11.toInt by omega]; exact hcw)))⟩
        exact lp8 _ w (show 0 ≤ w.toInt ∧ w.toInt ≤ 29 from by omega) (show w.toInt < (i 5).toInt from by omega) (show Ch (nF (i 5).toInt (c 23) (c 24)) w.toInt w.toInt from Ch_rf) (Nat.lt_succ_self _) _ _ _ hP hS (lv_sub hl [0, 1, 2, 3, 4] rfl)
      · have f7 := mt (ti_eq (a := x6.toInt) (b := 0) rfl (by decide +kernel)).mpr c7
        refine lv_aload_n hx hb dX12_isInView_45 rfl (lv_at hl 0 rfl) ?_
        refine mget_48 hx hb hts (fun _ h => List.mem_cons_of_mem _ (List.mem_append_right _ h)) hown hK hP (hts (.fieldLink RX12 101 "TalePlayModel" "isRoom" "[Z") (List.mem_cons_of_mem _ (List.mem_append_left _ (List.mem_append_left _ (List.mem_of_getElem? (i := 12) rfl))))) dX12_isInView_46 ?_
        refine lv_iload_n hx hb dX12_isInView_49 rfl (lv_at hl 2 rfl) ?_
        refine mld_48 hx hb hK hP (vp_in_iff.mpr (by have h9 : s1.toInt = s1.toInt := rfl; omega)) dX12_isInView_50 (fun x15 ex15 => ?_)
        have rx15 : 0 ≤ x15.toInt ∧ x15.toInt ≤ 1 := by rw [ex15]; exact hI.2 48 _
        refine lv_if_eq (tgt := 67) hx hb dX12_isInView_51 (by decide +kernel) (fun c16 => ?_) (fun c16 => ?_)
        · have f16 := (ti_eq (a := x15.toInt) (b := 0) rfl (by decide +kernel)).mp c16
          refine lv_iconst (v := 0) hx hb dX12_isInView_67 (by decide +kernel) ?_
          exact ro_zret hx hb hr hlocks hS rfl dX12_isInView_68 ⟨(show 0 ≤ (0 : Int32).toInt ∧ (0 : Int32).toInt ≤ 1 from by decide +kernel), (show Im ((0 : Int32).toInt = 1) (w.toInt = (i 22).toInt ∨ (c 49 w.toNatClampNeg).toInt = 1 ∨ Ch (nF (i 5).toInt (c 23) (c 24)) w.toInt s1.toInt) from fun h9 => absurd h9 (by decide +kernel))⟩
        · have f16 := mt (ti_eq (a := x15.toInt) (b := 0) rfl (by decide +kernel)).mpr c16
          refine lv_aload_n hx hb dX12_isInView_54 rfl (lv_at hl 0 rfl) ?_
          refine lv_iload_n hx hb dX12_isInView_55 rfl (lv_at hl 1 rfl) ?_
          refine lv_iload_n hx hb dX12_isInView_56 rfl (lv_at hl 2 rfl) ?_
          refine ro_calli (va_runV (As := [.int w, .int s1]) (rest := []) ⟨hx, hb, hml, hown, hts⟩ (s_X12_isSide l D s.heap.size o a t i q c d w s1 hI ) (cwV 2 hts gm_X12_isInView_X12_isSide rfl rfl rfl (by decide +kernel) ⟨Nat.le_of_ble_eq_true rfl, Nat.le_of_ble_eq_true rfl⟩) (pA_V hK hP (ci := 12) (q0 := 0) rfl rfl) rfl rfl hl.1 rfl (lv_room (Nat.le_of_ble_eq_true rfl)) dX12_isInView_57 ⟨Nat.le_of_ble_eq_true rfl, Nat.le_of_ble_eq_true rfl⟩) hS hA hP (fun r17 u17 H locs hw17 hP hS => ?_)
          have hw17 : (0 ≤ r17.toInt ∧ r17.toInt ≤ 1) := hw17
          refine lv_if_eq (tgt := 67) hx hb dX12_isInView_60 (by decide +kernel) (fun c18 => ?_) (fun c18 => ?_)
          · have f18 := (ti_eq (a := r17.toInt) (b := 0) rfl (by decide +kernel)).mp c18
            refine lv_iconst (v := 0) hx hb dX12_isInView_67 (by decide +kernel) ?_
            exact ro_zret hx hb hr hlocks hS rfl dX12_isInView_68 ⟨(show 0 ≤ (0 : Int32).toInt ∧ (0 : Int32).toInt ≤ 1 from by decide +kernel), (show Im ((0 : Int32).toInt = 1) (w.toInt = (i 22).toInt ∨ (c 49 w.toNatClampNeg).toInt = 1 ∨ Ch (nF (i 5).toInt (c 23) (c 24)) w.toInt s1.toInt) from fun h9 => absurd h9 (by decide +kernel))⟩
          · have f18 := mt (ti_eq (a := r17.toInt) (b := 0) rfl (by decide +kernel)).mpr c18
            refine lv_iconst (v := 1) hx hb dX12_isInView_63 (by decide +kernel) ?_
            refine lv_goto (tgt := 68) hx hb dX12_isInView_64 (by decide +kernel) ?_
            exact ro_zret hx hb hr hlocks hS rfl dX12_isInView_68 ⟨(show 0 ≤ (1 : Int32).toInt ∧ (1 : Int32).toInt ≤ 1 from by decide +kernel), (show Im ((1 : Int32).toInt = 1) (w.toInt = (i 22).toInt ∨ (c 49 w.toNatClampNeg).toInt = 1 ∨ Ch (nF (i 5).toInt (c 23) (c 24)) w.toInt s1.toInt) from fun _ => by first | exact Or.inl (by omega) | exact Or.inr (Or.inl (by omega)) | exact Or.inr (Or.inr (by rw [show w.toInt = s1.toInt by omega]; exact Ch_rf)))⟩
    · have f5 := (ti_eq (a := w.toInt) (b := s1.toInt) rfl rfl).mp c5
      refine lv_iload_n hx hb dX12_isInView_13 rfl (lv_at hl 1 rfl) ?_
      refine lv_aload_n hx hb dX12_isInView_14 rfl (lv_at hl 0 rfl) ?_
      refine mget_22 (v := (i 22)) rfl hx hb hts (fun _ h => List.mem_cons_of_mem _ (List.mem_append_right _ h)) hown hK hP (hts (.fieldLink RX12 155 "TalePlayModel" "player" "I") (List.mem_cons_of_mem _ (List.mem_append_left _ (List.mem_append_left _ (List.mem_of_getElem? (i := 0) rfl))))) dX12_isInView_15 ?_
      refine lv_icmp_eq (tgt := 30) hx hb dX12_isInView_18 (by decide +kernel) (fun c19 => ?_) (fun c19 => ?_)
      · have f19 := (ti_eq (a := w.toInt) (b := (i 22).toInt) rfl rfl).mp c19
        refine lv_iconst (v := 1) hx hb dX12_isInView_30 (by decide +kernel) ?_
        refine lv_goto (tgt := 35) hx hb dX12_isInView_31 (by decide +kernel) ?_
        exact ro_zret hx hb hr hlocks hS rfl dX12_isInView_35 ⟨(show 0 ≤ (1 : Int32).toInt ∧ (1 : Int32).toInt ≤ 1 from by decide +kernel), (show Im ((1 : Int32).toInt = 1) (w.toInt = (i 22).toInt ∨ (c 49 w.toNatClampNeg).toInt = 1 ∨ Ch (nF (i 5).toInt (c 23) (c 24)) w.toInt s1.toInt) from fun _ => by first | exact Or.inl (by omega) | exact Or.inr (Or.inl (by omega)) | exact Or.inr (Or.inr (by rw [show w.toInt = s1.toInt by omega]; exact Ch_rf)))⟩
      · have f19 := mt (ti_eq (a := w.toInt) (b := (i 22).toInt) rfl rfl).mpr c19
        refine lv_aload_n hx hb dX12_isInView_21 rfl (lv_at hl 0 rfl) ?_
        refine mget_47 hx hb hts (fun _ h => List.mem_cons_of_mem _ (List.mem_append_right _ h)) hown hK hP (hts (.fieldLink RX12 98 "TalePlayModel" "isBox" "[Z") (List.mem_cons_of_mem _ (List.mem_append_left _ (List.mem_append_left _ (List.mem_of_getElem? (i := 1) rfl))))) dX12_isInView_22 ?_
        refine lv_iload_n hx hb dX12_isInView_25 rfl (lv_at hl 2 rfl) ?_
        refine mld_47 hx hb hK hP (vp_in_iff.mpr (by have h9 : s1.toInt = s1.toInt := rfl; omega)) dX12_isInView_26 (fun x20 ex20 => ?_)
        have rx20 : 0 ≤ x20.toInt ∧ x20.toInt ≤ 1 := by rw [ex20]; exact hI.2 47 _
        refine lv_if_eq (tgt := 34) hx hb dX12_isInView_27 (by decide +kernel) (fun c21 => ?_) (fun c21 => ?_)
        · have f21 := (ti_eq (a := x20.toInt) (b := 0) rfl (by decide +kernel)).mp c21
          refine lv_iconst (v := 0) hx hb dX12_isInView_34 (by decide +kernel) ?_
          exact ro_zret hx hb hr hlocks hS rfl dX12_isInView_35 ⟨(show 0 ≤ (0 : Int32).toInt ∧ (0 : Int32).toInt ≤ 1 from by decide +kernel), (show Im ((0 : Int32).toInt = 1) (w.toInt = (i 22).toInt ∨ (c 49 w.toNatClampNeg).toInt = 1 ∨ Ch (nF (i 5).toInt (c 23) (c 24)) w.toInt s1.toInt) from fun h9 => absurd h9 (by decide +kernel))⟩
        · have f21 := mt (ti_eq (a := x20.toInt) (b := 0) rfl (by decide +kernel)).mpr c21
          refine lv_iconst (v := 1) hx hb dX12_isInView_30 (by decide +kernel) ?_
          refine lv_goto (tgt := 35) hx hb dX12_isInView_31 (by decide +kernel) ?_
          exact ro_zret hx hb hr hlocks hS rfl dX12_isInView_35 ⟨(show 0 ≤ (1 : Int32).toInt ∧ (1 : Int32).toInt ≤ 1 from by decide +kernel), (show Im ((1 : Int32).toInt = 1) (w.toInt = (i 22).toInt ∨ (c 49 w.toNatClampNeg).toInt = 1 ∨ Ch (nF (i 5).toInt (c 23) (c 24)) w.toInt s1.toInt) from fun _ => by first | exact Or.inl (by omega) | exact Or.inr (Or.inl (by omega)) | exact Or.inr (Or.inr (by rw [show w.toInt = s1.toInt by omega]; exact Ch_rf)))⟩

def wm_X12_lookAround : List Cond := .code yX12_lookAround cX12_lookAround 3 none :: ((([.methodLink RX12 331 yX12_shellOf, .instanceMethod yX12_shellOf, .selects RX12 yX12_shellOf yX12_shellOf, .initialized RX12, .code yX12_shellOf cX12_shellOf 3 (some .int), .fieldLink RX12 53 "TalePlayModel" "nAt" "[I", .fieldLink RX12 155 "TalePlayModel" "player" "I", .fieldLink RX12 101 "TalePlayModel" "isRoom" "[Z", .methodLink RX12 324 yX12_shuts, .instanceMethod yX12_shuts, .selects RX12 yX12_shuts yX12_shuts, .code yX12_shuts cX12_shuts 3 (some .boolean), .fieldLink RX12 98 "TalePlayModel" "isBox" "[Z", .fieldLink RX12 56 "TalePlayModel" "nOpen" "[Z", .fieldLink RX12 95 "TalePlayModel" "glass" "[Z", .fieldLink RX12 335 "TalePlayModel" "shell" "I"] : List Cond) ++ (([.fieldLink RX12 338 "TalePlayModel" "handShell" "I", .fieldLink RX12 341 "TalePlayModel" "isLight" "Z", .fieldLink RX12 177 "TalePlayModel" "objects" "I", .fieldLink RX12 86 "TalePlayModel" "seen" "[Z", .fieldLink RX12 89 "TalePlayModel" "reached" "[Z", .methodLink RX12 344 yX12_isInView, .instanceMethod yX12_isInView, .selects RX12 yX12_isInView yX12_isInView, .code yX12_isInView cX12_isInView 5 (some .boolean), .fieldLink RX12 104 "TalePlayModel" "isDoor" "[Z", .fieldLink RX12 50 "TalePlayModel" "nForm" "[I", .methodLink RX12 328 yX12_isSide, .instanceMethod yX12_isSide, .selects RX12 yX12_isSide yX12_isSide, .code yX12_isSide cX12_isSide 4 (some .boolean), .fieldLink RX12 202 "TalePlayModel" "sentences" "I"] : List Cond) ++ ([.fieldLink RX12 37 "TalePlayModel" "isSaid" "[Z", .fieldLink RX12 25 "TalePlayModel" "form" "[I", .fieldLink RX12 31 "TalePlayModel" "middle" "[I", .fieldLink RX12 28 "TalePlayModel" "left" "[I", .fieldLink RX12 92 "TalePlayModel" "lit" "[Z"] : List Cond))) ++ wsX120)
set_option maxRecDepth 20000 in
theorem gm_X12_lookAround_X12_shellOf : GoodIn wm_X12_lookAround (wsV RX12 331 RX12 yX12_shellOf wm_X12_shellOf) := goodIn_w (List.forall_mem_append.mpr ⟨List.forall_mem_cons.mpr ⟨List.mem_cons_of_mem _ (List.mem_append_left _ (List.mem_append_left _ (List.mem_of_getElem? (i := 0) rfl))), List.forall_mem_cons.mpr ⟨List.mem_cons_of_mem _ (List.mem_append_left _ (List.mem_append_left _ (List.mem_of_getElem? (i := 1) rfl))), List.forall_mem_cons.mpr ⟨List.mem_cons_of_mem _ (List.mem_append_left _ (List.mem_append_left _ (List.mem_of_getElem? (i := 2) rfl))), List.forall_mem_cons.mpr ⟨List.mem_cons_of_mem _ (List.mem_append_left _ (List.mem_append_left _ (List.mem_of_getElem? (i := 3) rfl))), (fun _ h => absurd h List.not_mem_nil)⟩⟩⟩⟩, List.forall_mem_cons.mpr ⟨List.mem_cons_of_mem _ (List.mem_append_left _ (List.mem_append_left _ (List.mem_of_getElem? (i := 4) rfl))), List.forall_mem_append.mpr ⟨List.forall_mem_cons.mpr ⟨List.mem_cons_of_mem _ (List.mem_append_left _ (List.mem_append_left _ (List.mem_of_getElem? (i := 5) rfl))), List.forall_mem_cons.mpr ⟨List.mem_cons_of_mem _ (List.mem_append_left _ (List.mem_append_left _ (List.mem_of_getElem? (i := 6) rfl))), List.forall_mem_cons.mpr ⟨List.mem_cons_of_mem _ (List.mem_append_left _ (List.mem_append_left _ (List.mem_of_getElem? (i := 7) rfl))), List.forall_mem_cons.mpr ⟨List.mem_cons_of_mem _ (List.mem_append_left _ (List.mem_append_left _ (List.mem_of_getElem? (i := 8) rfl))), List.forall_mem_cons.mpr ⟨List.mem_cons_of_mem _ (List.mem_append_left _ (List.mem_append_left _ (List.mem_of_getElem? (i := 9) rfl))), List.forall_mem_cons.mpr ⟨List.mem_cons_of_mem _ (List.mem_append_left _ (List.mem_append_left _ (List.mem_of_getElem? (i := 10) rfl))), List.forall_mem_cons.mpr ⟨List.mem_cons_of_mem _ (List.mem_append_left _ (List.mem_append_left _ (List.mem_of_getElem? (i := 3) rfl))), List.forall_mem_cons.mpr ⟨List.mem_cons_of_mem _ (List.mem_append_left _ (List.mem_append_left _ (List.mem_of_getElem? (i := 11) rfl))), List.forall_mem_cons.mpr ⟨List.mem_cons_of_mem _ (List.mem_append_left _ (List.mem_append_left _ (List.mem_of_getElem? (i := 12) rfl))), List.forall_mem_cons.mpr ⟨List.mem_cons_of_mem _ (List.mem_append_left _ (List.mem_append_left _ (List.mem_of_getElem? (i := 13) rfl))), List.forall_mem_cons.mpr ⟨List.mem_cons_of_mem _ (List.mem_append_left _ (List.mem_append_left _ (List.mem_of_getElem? (i := 14) rfl))), (fun _ h => absurd h List.not_mem_nil)⟩⟩⟩⟩⟩⟩⟩⟩⟩⟩⟩, (fun _ h => List.mem_cons_of_mem _ (List.mem_append_right _ h))⟩⟩⟩) (by decide +kernel)
set_option maxRecDepth 20000 in
theorem gm_X12_lookAround_X12_isInView : GoodIn wm_X12_lookAround (wsV RX12 344 RX12 yX12_isInView wm_X12_isInView) := goodIn_w (List.forall_mem_append.mpr ⟨List.forall_mem_cons.mpr ⟨List.mem_cons_of_mem _ (List.mem_append_left _ (List.mem_append_right _ (List.mem_append_left _ (List.mem_of_getElem? (i := 5) rfl)))), List.forall_mem_cons.mpr ⟨List.mem_cons_of_mem _ (List.mem_append_left _ (List.mem_append_right _ (List.mem_append_left _ (List.mem_of_getElem? (i := 6) rfl)))), List.forall_mem_cons.mpr ⟨List.mem_cons_of_mem _ (List.mem_append_left _ (List.mem_append_right _ (List.mem_append_left _ (List.mem_of_getElem? (i := 7) rfl)))), List.forall_mem_cons.mpr ⟨List.mem_cons_of_mem _ (List.mem_append_left _ (List.mem_append_left _ (List.mem_of_getElem? (i := 3) rfl))), (fun _ h => absurd h List.not_mem_nil)⟩⟩⟩⟩, List.forall_mem_cons.mpr ⟨List.mem_cons_of_mem _ (List.mem_append_left _ (List.mem_append_right _ (List.mem_append_left _ (List.mem_of_getElem? (i := 8) rfl)))), List.forall_mem_append.mpr ⟨List.forall_mem_append.mpr ⟨List.forall_mem_cons.mpr ⟨List.mem_cons_of_mem _ (List.mem_append_left _ (List.mem_append_left _ (List.mem_of_getElem? (i := 6) rfl))), List.forall_mem_cons.mpr ⟨List.mem_cons_of_mem _ (List.mem_append_left _ (List.mem_append_left _ (List.mem_of_getElem? (i := 12) rfl))), List.forall_mem_cons.mpr ⟨List.mem_cons_of_mem _ (List.mem_append_left _ (List.mem_append_right _ (List.mem_append_left _ (List.mem_of_getElem? (i := 9) rfl)))), List.forall_mem_cons.mpr ⟨List.mem_cons_of_mem _ (List.mem_append_left _ (List.mem_append_right _ (List.mem_append_left _ (List.mem_of_getElem? (i := 10) rfl)))), List.forall_mem_cons.mpr ⟨List.mem_cons_of_mem _ (List.mem_append_left _ (List.mem_append_left _ (List.mem_of_getElem? (i := 5) rfl))), List.forall_mem_cons.mpr ⟨List.mem_cons_of_mem _ (List.mem_append_left _ (List.mem_append_left _ (List.mem_of_getElem? (i := 8) rfl))), List.forall_mem_cons.mpr ⟨List.mem_cons_of_mem _ (List.mem_append_left _ (List.mem_append_left _ (List.mem_of_getElem? (i := 9) rfl))), List.forall_mem_cons.mpr ⟨List.mem_cons_of_mem _ (List.mem_append_left _ (List.mem_append_left _ (List.mem_of_getElem? (i := 10) rfl))), List.forall_mem_cons.mpr ⟨List.mem_cons_of_mem _ (List.mem_append_left _ (List.mem_append_left _ (List.mem_of_getElem? (i := 3) rfl))), List.forall_mem_cons.mpr ⟨List.mem_cons_of_mem _ (List.mem_append_left _ (List.mem_append_left _ (List.mem_of_getElem? (i := 11) rfl))), List.forall_mem_cons.mpr ⟨List.mem_cons_of_mem _ (List.mem_append_left _ (List.mem_append_left _ (List.mem_of_getElem? (i := 13) rfl))), List.forall_mem_cons.mpr ⟨List.mem_cons_of_mem _ (List.mem_append_left _ (List.mem_append_left _ (List.mem_of_getElem? (i := 14) rfl))), List.forall_mem_cons.mpr ⟨List.mem_cons_of_mem _ (List.mem_append_left _ (List.mem_append_left _ (List.mem_of_getElem? (i := 7) rfl))), List.forall_mem_cons.mpr ⟨List.mem_cons_of_mem _ (List.mem_append_left _ (List.mem_append_right _ (List.mem_append_left _ (List.mem_of_getElem? (i := 11) rfl)))), List.forall_mem_cons.mpr ⟨List.mem_cons_of_mem _ (List.mem_append_left _ (List.mem_append_right _ (List.mem_append_left _ (List.mem_of_getElem? (i := 12) rfl)))), List.forall_mem_cons.mpr ⟨List.mem_cons_of_mem _ (List.mem_append_left _ (List.mem_append_right _ (List.mem_append_left _ (List.mem_of_getElem? (i := 13) rfl)))), (fun _ h => absurd h List.not_mem_nil)⟩⟩⟩⟩⟩⟩⟩⟩⟩⟩⟩⟩⟩⟩⟩⟩, List.forall_mem_cons.mpr ⟨List.mem_cons_of_mem _ (List.mem_append_left _ (List.mem_append_right _ (List.mem_append_left _ (List.mem_of_getElem? (i := 14) rfl)))), List.forall_mem_cons.mpr ⟨List.mem_cons_of_mem _ (List.mem_append_left _ (List.mem_append_right _ (List.mem_append_left _ (List.mem_of_getElem? (i := 15) rfl)))), List.forall_mem_cons.mpr ⟨List.mem_cons_of_mem _ (List.mem_append_left _ (List.mem_append_right _ (List.mem_append_right _ (List.mem_of_getElem? (i := 0) rfl)))), List.forall_mem_cons.mpr ⟨List.mem_cons_of_mem _ (List.mem_append_left _ (List.mem_append_right _ (List.mem_append_right _ (List.mem_of_getElem? (i := 1) rfl)))), List.forall_mem_cons.mpr ⟨List.mem_cons_of_mem _ (List.mem_append_left _ (List.mem_append_right _ (List.mem_append_right _ (List.mem_of_getElem? (i := 2) rfl)))), List.forall_mem_cons.mpr ⟨List.mem_cons_of_mem _ (List.mem_append_left _ (List.mem_append_right _ (List.mem_append_right _ (List.mem_of_getElem? (i := 3) rfl)))), (fun _ h => absurd h List.not_mem_nil)⟩⟩⟩⟩⟩⟩⟩, (fun _ h => List.mem_cons_of_mem _ (List.mem_append_right _ h))⟩⟩⟩) (by decide +kernel)
set_option maxHeartbeats 4000000 in
set_option maxRecDepth 100000 in
theorem s_X12_lookAround (l : Launch) (D : va_G) (sz : Nat) (o : Nat) (a : Nat → Nat) (t : Nat → ClassId) (i : Nat → Int32) (q : Int64) (c : Nat → Nat → Int32) (d : Nat → Nat → Int64) (hI : mInv i c) (hs_T : TI (i 5).toInt (fun z => Kd (c 3) (c 6) z 0) (i 22).toInt (c 23) (c 24)) (hs_C : Cc (c 3) (c 6) (c 47) (c 48) (c 49) (i 5).toInt) : Met l yX12_lookAround wm_X12_lookAround ({ frames := 2, cells := 0, slots := 0, locals := 47 }) (va_Pc [.ref o] (pB D sz (mW o a t i q c d) (mT t))) (va_Qv (fun (u : MS) => True ∧ mInv u.1 u.2.2.1 ∧ (∀ k, k ∉ ([40, 41, 42] : List Nat) → u.1 k = i k) ∧ (∀ k, k ∉ ([43, 44] : List Nat) → u.2.2.1 k = c k) ∧ (RQ (u.2.2.1 44) (c 49) (nF (i 5).toInt (c 23) (c 24)) (i 22).toInt (i 5).toInt)) (oC D (va_A (mW o a t i q c d) sz) (fun u : MS => mW o a t u.1 u.2.1 u.2.2.1 u.2.2.2) (fun _ => [])) (va_A (mW o a t i q c d) sz)) 0 0 (va_A (mW o a t i q c d) sz) := by
  refine Met.ofW (cc := cX12_lookAround) (maxL := 3) (ret := none) (by decide +kernel) rfl ?_
  intro p e s m args below meth cd s₁ B hml hv
  obtain ⟨rfl, hsz, hP, hK, hD0⟩ := hv
  have hx := B.exec
  have hb := B.bytes
  have hr := B.returns
  have hts := atoms_spec (ws := wm_X12_lookAround) B.pre
  have hown : s.vm.findClass RX12 = some m.cls := findClass_of_methodNamed B.named
  have hlocks := B.notSynchronized
  subst hsz
  have hD := hD0.self (sz := s.heap.size)
  generalize hAe : va_A (mW o a t i q c d) s.heap.size = A at hD ⊢
  have hA : ∀ q : Nat, s.heap.size ≤ q → A q := fun q h => by rw [← hAe]; exact Or.inr h
  have hS : va_S A s.heap s.heap [] := va_S.rf
  have hfi : ∀ k, k ∉ ([] : List Nat) → i k = i k := fun _ _ => rfl
  have hfc : ∀ k, k ∉ ([] : List Nat) → c k = c k := fun _ _ => rfl
  have hl := lv_entry ([.ref o]) (n := 3) (Nat.le_of_ble_eq_true rfl)
  rw [lg_entry_eq]
  generalize (lg_sl ([.ref o]) ++ List.replicate (3 - (lg_sl ([.ref o])).length) Slot.unset).toArray = ls at hl ⊢
  have hl : lv_has ls 3 [(0, .ref o)] := hl
  have rb5_i : 0 ≤ (i 5).toInt ∧ (i 5).toInt ≤ 30 := hI.1 5
  have rb22_i : (i 22).toInt = -9 ∨ (0 ≤ (i 22).toInt ∧ (i 22).toInt ≤ 29) := hI.1 22
  have hTt := hs_T
  obtain ⟨⟨hp0, hp1, hp2⟩, hT2, hT3, ⟨rk, hrk⟩, rr, hq0, hq1, hq2, hq3⟩ := hTt
  have hsp : Sp (nF (i 5).toInt (c 23) (c 24)) := nF_Sp (by omega) hT2
  have hpl := TI_p hs_T
  have hpa : 0 ≤ (c 24 (i 22).toNatClampNeg).toInt ∧ (c 24 (i 22).toNatClampNeg).toInt < (i 5).toInt := hT2 _ hp0 hp1 hpl
  refine lv_aload_n hx hb dX12_lookAround_0 rfl (lv_at hl 0 rfl) ?_
  refine lv_aload_n hx hb dX12_lookAround_1 rfl (lv_at hl 0 rfl) ?_
  refine lv_iconst (v := 0) hx hb dX12_lookAround_2 (by decide +kernel) ?_
  refine ro_calli (va_runV (As := [.int 0]) (rest := [.ref o]) ⟨hx, hb, hml, hown, hts⟩ (s_X12_shellOf l D s.heap.size o a t i q c d 0 hI hs_T hs_C) (cwV 1 hts gm_X12_lookAround_X12_shellOf rfl rfl rfl (by decide +kernel) ⟨Nat.le_of_ble_eq_true rfl, Nat.le_of_ble_eq_true rfl⟩) (pA_V hK hP (ci := 12) (q0 := 0) rfl rfl) rfl rfl hl.1 rfl (lv_room (Nat.le_of_ble_eq_true rfl)) dX12_lookAround_3 ⟨Nat.le_of_ble_eq_true rfl, Nat.le_of_ble_eq_true rfl⟩) hS hA hP (fun r1 u1 H locs hw1 hP hS => ?_)
  have hw1 : ((0 ≤ r1.toInt ∧ r1.toInt ≤ 29) ∧ (r1.toInt < (i 5).toInt ∧ Ch (nF (i 5).toInt (c 23) (c 24)) (i 22).toInt r1.toInt)) := hw1
  obtain ⟨hw1, hr1_0⟩ := hw1
  have hr1_0 : r1.toInt < (i 5).toInt ∧ Ch (nF (i 5).toInt (c 23) (c 24)) (i 22).toInt r1.toInt := hr1_0
  refine mput_40 hx hb hts (fun _ h => List.mem_cons_of_mem _ (List.mem_append_right _ h)) hown hK hP hD hS (hts (.fieldLink RX12 335 "TalePlayModel" "shell" "I") (List.mem_cons_of_mem _ (List.mem_append_left _ (List.mem_append_left _ (List.mem_of_getElem? (i := 15) rfl))))) rfl rfl dX12_lookAround_6 (fun H locs hP hD hS => ?_)
  have hI := mInv_i hI (k := 40) (v := r1) (show 0 ≤ (r1 : Int32).toInt ∧ (r1 : Int32).toInt ≤ 29 from by omega)
  have hfi : ∀ k, k ∉ ([40] : List Nat) → (upd i 40 r1) k = i k := fr_iz hfi (by decide +kernel) (by decide +kernel)
  refine lv_aload_n hx hb dX12_lookAround_9 rfl (lv_at hl 0 rfl) ?_
  refine lv_aload_n hx hb dX12_lookAround_10 rfl (lv_at hl 0 rfl) ?_
  refine lv_iconst (v := 1) hx hb dX12_lookAround_11 (by decide +kernel) ?_
  refine ro_calli (va_runV (As := [.int 1]) (rest := [.ref o]) ⟨hx, hb, hml, hown, hts⟩ (s_X12_shellOf l D H.size o a t (upd i 40 r1) q c d 1 hI (by rw [show (upd i 40 r1) 5 = i 5 from hfi 5 (by decide +kernel), show (upd i 40 r1) 22 = i 22 from hfi 22 (by decide +kernel)]; exact hs_T) (by rw [show (upd i 40 r1) 5 = i 5 from hfi 5 (by decide +kernel)]; exact hs_C)) (cwV 1 hts gm_X12_lookAround_X12_shellOf rfl rfl rfl (by decide +kernel) ⟨Nat.le_of_ble_eq_true rfl, Nat.le_of_ble_eq_true rfl⟩) (pA_V hK hP (ci := 12) (q0 := 0) rfl rfl) rfl rfl hl.1 rfl (lv_room (Nat.le_of_ble_eq_true rfl)) dX12_lookAround_12 ⟨Nat.le_of_ble_eq_true rfl, Nat.le_of_ble_eq_true rfl⟩) hS hA hP (fun r2 u2 H locs hw2 hP hS => ?_)
  have hw2 : ((0 ≤ r2.toInt ∧ r2.toInt ≤ 29) ∧ (r2.toInt < ((upd i 40 r1) 5).toInt ∧ Ch (nF ((upd i 40 r1) 5).toInt (c 23) (c 24)) ((upd i 40 r1) 22).toInt r2.toInt)) := hw2
  obtain ⟨hw2, hr2_0⟩ := hw2
  have hr2_0 : r2.toInt < (i 5).toInt ∧ Ch (nF (i 5).toInt (c 23) (c 24)) (i 22).toInt r2.toInt := by have h9 := hr2_0; rw [show (upd i 40 r1) 5 = i 5 from hfi 5 (by decide +kernel), show (upd i 40 r1) 22 = i 22 from hfi 22 (by decide +kernel)] at h9; exact h9
  refine mput_41 hx hb hts (fun _ h => List.mem_cons_of_mem _ (List.mem_append_right _ h)) hown hK hP hD hS (hts (.fieldLink RX12 338 "TalePlayModel" "handShell" "I") (List.mem_cons_of_mem _ (List.mem_append_left _ (List.mem_append_right _ (List.mem_append_left _ (List.mem_of_getElem? (i := 0) rfl)))))) rfl rfl dX12_lookAround_15 (fun H locs hP hD hS => ?_)
  have hI := mInv_i hI (k := 41) (v := r2) (show 0 ≤ (r2 : Int32).toInt ∧ (r2 : Int32).toInt ≤ 29 from by omega)
  have hfi : ∀ k, k ∉ ([40, 41] : List Nat) → (upd (upd i 40 r1) 41 r2) k = i k := fr_iz hfi (by decide +kernel) (by decide +kernel)
  refine lv_aload_n hx hb dX12_lookAround_18 rfl (lv_at hl 0 rfl) ?_
  refine lv_aload_n hx hb dX12_lookAround_19 rfl (lv_at hl 0 rfl) ?_
  refine mget_48 hx hb hts (fun _ h => List.mem_cons_of_mem _ (List.mem_append_right _ h)) hown hK hP (hts (.fieldLink RX12 101 "TalePlayModel" "isRoom" "[Z") (List.mem_cons_of_mem _ (List.mem_append_left _ (List.mem_append_left _ (List.mem_of_getElem? (i := 7) rfl))))) dX12_lookAround_20 ?_
  refine lv_aload_n hx hb dX12_lookAround_23 rfl (lv_at hl 0 rfl) ?_
  refine mget_40 (i := (upd (upd i 40 r1) 41 r2)) (v := r1) rfl hx hb hts (fun _ h => List.mem_cons_of_mem _ (List.mem_append_right _ h)) hown hK hP (hts (.fieldLink RX12 335 "TalePlayModel" "shell" "I") (List.mem_cons_of_mem _ (List.mem_append_left _ (List.mem_append_left _ (List.mem_of_getElem? (i := 15) rfl))))) dX12_lookAround_24 ?_
  refine mld_48 hx hb hK hP (vp_in_iff.mpr (by have h9 : r1.toInt = r1.toInt := rfl; omega)) dX12_lookAround_27 (fun x3 ex3 => ?_)
  have rx3 : 0 ≤ x3.toInt ∧ x3.toInt ≤ 1 := by rw [ex3]; exact hI.2 48 _
  have jn4 : ∀ (z4_0 : Int32), (z4_0.toInt = 0 ∨ z4_0.toInt = 1) → ∀ (H : Heap) (locs : List Loc) (ls : Array Slot), va_P D vwCl (mW o a t (upd (upd i 40 r1) 41 r2) q c d) H → va_D A (mW o a t (upd (upd i 40 r1) 41 r2) q c d) → va_S A s.heap H locs → lv_has ls 3 [(0, .ref o)] → W p l e (headSpec wm_X12_lookAround ({ frames := 2, cells := 0, slots := 0, locals := 47 })).room s m ([.ref o] : List Value).toArray below meth cd H locs 0 0 (MQ below (va_Qv (fun (u : MS) => True ∧ mInv u.1 u.2.2.1 ∧ (∀ k, k ∉ ([40, 41, 42] : List Nat) → u.1 k = i k) ∧ (∀ k, k ∉ ([43, 44] : List Nat) → u.2.2.1 k = c k) ∧ (RQ (u.2.2.1 44) (c 49) (nF (i 5).toInt (c 23) (c 24)) (i 22).toInt (i 5).toInt)) (oC D A (fun u : MS => mW o a t u.1 u.2.1 u.2.2.1 u.2.2.2) (fun _ => [])) A) ([.ref o] : List Value).toArray s 0 0 A) (F0 m 48 ls [.int z4_0, .ref o]) := by
    intro z4_0 hs4_0 H locs ls hP hD hS hl
    refine mput_42 hx hb hts (fun _ h => List.mem_cons_of_mem _ (List.mem_append_right _ h)) hown hK hP hD hS (hts (.fieldLink RX12 341 "TalePlayModel" "isLight" "Z") (List.mem_cons_of_mem _ (List.mem_append_left _ (List.mem_append_right _ (List.mem_append_left _ (List.mem_of_getElem? (i := 1) rfl)))))) (nb_n (show 0 ≤ z4_0.toInt ∧ z4_0.toInt ≤ 1 from by omega)) (nb_f (show 0 ≤ z4_0.toInt ∧ z4_0.toInt ≤ 1 from by omega)) dX12_lookAround_48 (fun H locs hP hD hS => ?_)
    have hI := mInv_i hI (k := 42) (v := z4_0) (show 0 ≤ (z4_0 : Int32).toInt ∧ (z4_0 : Int32).toInt ≤ 1 from by omega)
    have hfi : ∀ k, k ∉ ([40, 41, 42] : List Nat) → (upd (upd (upd i 40 r1) 41 r2) 42 z4_0) k = i k := fr_iz hfi (by decide +kernel) (by decide +kernel)
    refine lv_iconst (v := 0) hx hb dX12_lookAround_51 (by decide +kernel) ?_
    refine lv_istore_n (lv' := [(1, .int 0), (0, .ref o)]) hx hb dX12_lookAround_52 rfl hl (by decide +kernel) rfl (fun ls hl => ?_)
    have lp5 : ∀ (fu : Nat) (i5 : Nat → Int32) (q5 : Int64) (c5 : Nat → Nat → Int32) (d5 : Nat → Nat → Int64) (y5_1 : Int32), mInv i5 c5 → (∀ k, k ∉ ([40, 41, 42] : List Nat) → i5 k = i k) → (∀ k, k ∉ ([] : List Nat) → c5 k = c k) → (0 ≤ y5_1.toInt ∧ y5_1.toInt ≤ 30) → (0 ≤ ((i5 40) : Int32).toInt ∧ ((i5 40) : Int32).toInt < (i 5).toInt) → (0 ≤ ((i5 41) : Int32).toInt ∧ ((i5 41) : Int32).toInt < (i 5).toInt ∧ Ch (nF (i 5).toInt (c 23) (c 24)) (i 22).toInt ((i5 41) : Int32).toInt) → (30 - y5_1.toInt).toNat < fu → ∀ (H : Heap) (locs : List Loc) (ls : Array Slot), va_P D vwCl (mW o a t i5 q5 c5 d5) H → va_D A (mW o a t i5 q5 c5 d5) → va_S A s.heap H locs → lv_has ls 3 [(1, .int y5_1), (0, .ref o)] → W p l e (headSpec wm_X12_lookAround ({ frames := 2, cells := 0, slots := 0, locals := 47 })).room s m ([.ref o] : List Value).toArray below meth cd H locs 0 0 (MQ below (va_Qv (fun (u : MS) => True ∧ mInv u.1 u.2.2.1 ∧ (∀ k, k ∉ ([40, 41, 42] : List Nat) → u.1 k = i k) ∧ (∀ k, k ∉ ([43, 44] : List Nat) → u.2.2.1 k = c k) ∧ (RQ (u.2.2.1 44) (c 49) (nF (i 5).toInt (c 23) (c 24)) (i 22).toInt (i 5).toInt)) (oC D A (fun u : MS => mW o a t u.1 u.2.1 u.2.2.1 u.2.2.2) (fun _ => [])) A) ([.ref o] : List Value).toArray s 0 0 A) (F0 m 53 ls []) := by
      intro fu
      induction fu with
      | zero => intro i5 q5 c5 d5 y5_1 hI hfi hfc hy5_1 hz5_0 hz5_1 hm; exact absurd hm (Nat.not_lt_zero _)
      | succ fu ih =>
        intro i5 q5 c5 d5 y5_1 hI hfi hfc hy5_1 hz5_0 hz5_1 hm H locs ls hP hD hS hl
        have ih5 := ih
        refine lv_iload_n hx hb dX12_lookAround_53 rfl (lv_at hl 0 rfl) ?_
        refine lv_aload_n hx hb dX12_lookAround_54 rfl (lv_at hl 1 rfl) ?_
        refine mget_5 (v := (i5 5)) rfl hx hb hts (fun _ h => List.mem_cons_of_mem _ (List.mem_append_right _ h)) hown hK hP (hts (.fieldLink RX12 177 "TalePlayModel" "objects" "I") (List.mem_cons_of_mem _ (List.mem_append_left _ (List.mem_append_right _ (List.mem_append_left _ (List.mem_of_getElem? (i := 2) rfl)))))) dX12_lookAround_55 ?_
        have rb5_i5 : 0 ≤ (i5 5).toInt ∧ (i5 5).toInt ≤ 30 := hI.1 5
        have re5_i5 : (i5 5).toInt = (i 5).toInt := congrArg Int32.toInt (hfi 5 (by decide +kernel))
        have jn6 : ∀ (H : Heap) (locs : List Loc) (ls : Array Slot), va_P D vwCl (mW o a t i5 q5 c5 d5) H → va_D A (mW o a t i5 q5 c5 d5) → va_S A s.heap H locs → lv_has ls 3 [(1, .int y5_1), (0, .ref o)] → W p l e (headSpec wm_X12_lookAround ({ frames := 2, cells := 0, slots := 0, locals := 47 })).room s m ([.ref o] : List Value).toArray below meth cd H locs 0 0 (MQ below (va_Qv (fun (u : MS) => True ∧ mInv u.1 u.2.2.1 ∧ (∀ k, k ∉ ([40, 41, 42] : List Nat) → u.1 k = i k) ∧ (∀ k, k ∉ ([43, 44] : List Nat) → u.2.2.1 k = c k) ∧ (RQ (u.2.2.1 44) (c 49) (nF (i 5).toInt (c 23) (c 24)) (i 22).toInt (i 5).toInt)) (oC D A (fun u : MS => mW o a t u.1 u.2.1 u.2.2.1 u.2.2.2) (fun _ => [])) A) ([.ref o] : List Value).toArray s 0 0 A) (F0 m 114 ls []) := by
          intro H locs ls hP hD hS hl
          refine lv_iconst (v := 0) hx hb dX12_lookAround_114 (by decide +kernel) ?_
          refine lv_istore_n (lv' := [(1, .int 0), (0, .ref o)]) hx hb dX12_lookAround_115 rfl hl (by decide +kernel) rfl (fun ls hl => ?_)
          have lp7 : ∀ (fu : Nat) (i7 : Nat → Int32) (q7 : Int64) (c7 : Nat → Nat → Int32) (d7 : Nat → Nat → Int64) (y7_1 : Int32), mInv i7 c7 → (∀ k, k ∉ ([40, 41, 42] : List Nat) → i7 k = i k) → (∀ k, k ∉ ([43, 44] : List Nat) → c7 k = c k) → (0 ≤ y7_1.toInt ∧ y7_1.toInt ≤ 30) → (0 ≤ ((i7 40) : Int32).toInt ∧ ((i7 40) : Int32).toInt < (i 5).toInt) → (0 ≤ ((i7 41) : Int32).toInt ∧ ((i7 41) : Int32).toInt < (i 5).toInt ∧ Ch (nF (i 5).toInt (c 23) (c 24)) (i 22).toInt ((i7 41) : Int32).toInt) → (RQ (c7 44) (c 49) (nF (i 5).toInt (c 23) (c 24)) (i 22).toInt y7_1.toInt) → (30 - y7_1.toInt).toNat < fu → ∀ (H : Heap) (locs : List Loc) (ls : Array Slot), va_P D vwCl (mW o a t i7 q7 c7 d7) H → va_D A (mW o a t i7 q7 c7 d7) → va_S A s.heap H locs → lv_has ls 3 [(1, .int y7_1), (0, .ref o)] → W p l e (headSpec wm_X12_lookAround ({ frames := 2, cells := 0, slots := 0, locals := 47 })).room s m ([.ref o] : List Value).toArray below meth cd H locs 0 0 (MQ below (va_Qv (fun (u : MS) => True ∧ mInv u.1 u.2.2.1 ∧ (∀ k, k ∉ ([40, 41, 42] : List Nat) → u.1 k = i k) ∧ (∀ k, k ∉ ([43, 44] : List Nat) → u.2.2.1 k = c k) ∧ (RQ (u.2.2.1 44) (c 49) (nF (i 5).toInt (c 23) (c 24)) (i 22).toInt (i 5).toInt)) (oC D A (fun u : MS => mW o a t u.1 u.2.1 u.2.2.1 u.2.2.2) (fun _ => [])) A) ([.ref o] : List Value).toArray s 0 0 A) (F0 m 116 ls []) := by
            intro fu
            induction fu with
            | zero => intro i7 q7 c7 d7 y7_1 hI hfi hfc hy7_1 hz7_0 hz7_1 hz7_2 hm; exact absurd hm (Nat.not_lt_zero _)
            | succ fu ih =>
              intro i7 q7 c7 d7 y7_1 hI hfi hfc hy7_1 hz7_0 hz7_1 hz7_2 hm H locs ls hP hD hS hl
              have ih7 := ih
              refine lv_iload_n hx hb dX12_lookAround_116 rfl (lv_at hl 0 rfl) ?_
              refine lv_aload_n hx hb dX12_lookAround_117 rfl (lv_at hl 1 rfl) ?_
              refine mget_5 (v := (i7 5)) rfl hx hb hts (fun _ h => List.mem_cons_of_mem _ (List.mem_append_right _ h)) hown hK hP (hts (.fieldLink RX12 177 "TalePlayModel" "objects" "I") (List.mem_cons_of_mem _ (List.mem_append_left _ (List.mem_append_right _ (List.mem_append_left _ (List.mem_of_getElem? (i := 2) rfl)))))) dX12_lookAround_118 ?_
              have rb5_i7 : 0 ≤ (i7 5).toInt ∧ (i7 5).toInt ≤ 30 := hI.1 5
              have re5_i7 : (i7 5).toInt = (i 5).toInt := congrArg Int32.toInt (hfi 5 (by decide +kernel))
              refine lv_icmp_ge (tgt := 237) hx hb dX12_lookAround_121 (by decide +kernel) (fun c8 => ?_) (fun c8 => ?_)
              · have f8 := (ti_le (a := (i7 5).toInt) (b := y7_1.toInt) rfl rfl).mp c8
                exact rw_vret (i7, q7, c7, d7) hx hb hr hlocks hS (hK.sub (tys' := []) [] rfl) hP hD dX12_lookAround_237 ⟨trivial, hI, fr_w hfi (by decide +kernel), fr_w hfc (by decide +kernel), (show RQ (c7 44) (c 49) (nF (i 5).toInt (c 23) (c 24)) (i 22).toInt (i 5).toInt from by intro x a b q; exact hz7_2 x a (by omega) q)⟩
              · have f8 := mt (ti_le (a := (i7 5).toInt) (b := y7_1.toInt) rfl rfl).mpr c8
                refine lv_aload_n hx hb dX12_lookAround_124 rfl (lv_at hl 1 rfl) ?_
                refine mget_24 hx hb hts (fun _ h => List.mem_cons_of_mem _ (List.mem_append_right _ h)) hown hK hP (hts (.fieldLink RX12 53 "TalePlayModel" "nAt" "[I") (List.mem_cons_of_mem _ (List.mem_append_left _ (List.mem_append_left _ (List.mem_of_getElem? (i := 5) rfl))))) dX12_lookAround_125 ?_
                refine lv_iload_n hx hb dX12_lookAround_128 rfl (lv_at hl 0 rfl) ?_
                refine mld_24 hx hb hK hP (vp_in_iff.mpr (by have h9 : y7_1.toInt = y7_1.toInt := rfl; omega)) dX12_lookAround_129 (fun x9 ex9 => ?_)
                have rx9 : x9.toInt = -9 ∨ (0 ≤ x9.toInt ∧ x9.toInt ≤ 29) := by rw [ex9]; exact hI.2 24 _
                refine lv_aload_n hx hb dX12_lookAround_130 rfl (lv_at hl 1 rfl) ?_
                refine mget_22 (v := (i7 22)) rfl hx hb hts (fun _ h => List.mem_cons_of_mem _ (List.mem_append_right _ h)) hown hK hP (hts (.fieldLink RX12 155 "TalePlayModel" "player" "I") (List.mem_cons_of_mem _ (List.mem_append_left _ (List.mem_append_left _ (List.mem_of_getElem? (i := 6) rfl))))) dX12_lookAround_131 ?_
                have rb22_i7 : (i7 22).toInt = -9 ∨ (0 ≤ (i7 22).toInt ∧ (i7 22).toInt ≤ 29) := hI.1 22
                have re22_i7 : (i7 22).toInt = (i 22).toInt := congrArg Int32.toInt (hfi 22 (by decide +kernel))
                have jn10 : ∀ (z10_0 : Int32), (z10_0.toInt = 0 ∨ z10_0.toInt = 1) → ∀ (H : Heap) (locs : List Loc) (ls : Array Slot), va_P D vwCl (mW o a t i7 q7 c7 d7) H → va_D A (mW o a t i7 q7 c7 d7) → va_S A s.heap H locs → lv_has ls 3 [(1, .int y7_1), (0, .ref o)] → W p l e (headSpec wm_X12_lookAround ({ frames := 2, cells := 0, slots := 0, locals := 47 })).room s m ([.ref o] : List Value).toArray below meth cd H locs 0 0 (MQ below (va_Qv (fun (u : MS) => True ∧ mInv u.1 u.2.2.1 ∧ (∀ k, k ∉ ([40, 41, 42] : List Nat) → u.1 k = i k) ∧ (∀ k, k ∉ ([43, 44] : List Nat) → u.2.2.1 k = c k) ∧ (RQ (u.2.2.1 44) (c 49) (nF (i 5).toInt (c 23) (c 24)) (i 22).toInt (i 5).toInt)) (oC D A (fun u : MS => mW o a t u.1 u.2.1 u.2.2.1 u.2.2.2) (fun _ => [])) A) ([.ref o] : List Value).toArray s 0 0 A) (F0 m 162 ls [.int z10_0]) := by
                  intro z10_0 hs10_0 H locs ls hP hD hS hl
                  refine lv_istore_n (lv' := [(2, .int z10_0), (1, .int y7_1), (0, .ref o)]) hx hb dX12_lookAround_162 rfl hl (by decide +kernel) rfl (fun ls hl => ?_)
                  refine lv_aload_n hx hb dX12_lookAround_163 rfl (lv_at hl 2 rfl) ?_
                  refine mget_43 hx hb hts (fun _ h => List.mem_cons_of_mem _ (List.mem_append_right _ h)) hown hK hP (hts (.fieldLink RX12 86 "TalePlayModel" "seen" "[Z") (List.mem_cons_of_mem _ (List.mem_append_left _ (List.mem_append_right _ (List.mem_append_left _ (List.mem_of_getElem? (i := 3) rfl)))))) dX12_lookAround_164 ?_
                  refine lv_iload_n hx hb dX12_lookAround_167 rfl (lv_at hl 1 rfl) ?_
                  refine lv_iload_n hx hb dX12_lookAround_168 rfl (lv_at hl 0 rfl) ?_
                  have jn11 : ∀ (z11_0 : Int32), (z11_0.toInt = 0 ∨ z11_0.toInt = 1) → ∀ (H : Heap) (locs : List Loc) (ls : Array Slot), va_P D vwCl (mW o a t i7 q7 c7 d7) H → va_D A (mW o a t i7 q7 c7 d7) → va_S A s.heap H locs → lv_has ls 3 [(2, .int z10_0), (1, .int y7_1), (0, .ref o)] → W p l e (headSpec wm_X12_lookAround ({ frames := 2, cells := 0, slots := 0, locals := 47 })).room s m ([.ref o] : List Value).toArray below meth cd H locs 0 0 (MQ below (va_Qv (fun (u : MS) => True ∧ mInv u.1 u.2.2.1 ∧ (∀ k, k ∉ ([40, 41, 42] : List Nat) → u.1 k = i k) ∧ (∀ k, k ∉ ([43, 44] : List Nat) → u.2.2.1 k = c k) ∧ (RQ (u.2.2.1 44) (c 49) (nF (i 5).toInt (c 23) (c 24)) (i 22).toInt (i 5).toInt)) (oC D A (fun u : MS => mW o a t u.1 u.2.1 u.2.2.1 u.2.2.2) (fun _ => [])) A) ([.ref o] : List Value).toArray s 0 0 A) (F0 m 197 ls [.int z11_0, .int y7_1, .ref (a 43)]) := by
                    intro z11_0 hs11_0 H locs ls hP hD hS hl
                    refine mst_43 hx hb hK hP hD hS (vp_in_iff.mpr (by have h9 : y7_1.toInt = y7_1.toInt := rfl; omega)) (nb_z (show 0 ≤ (z11_0 : Int32).toInt ∧ (z11_0 : Int32).toInt ≤ 1 from by omega)) dX12_lookAround_197 (fun H locs hP hD hS => ?_)
                    have hI := mInv_c hI (k := 43) (j := (y7_1 : Int32).toNatClampNeg) (x := z11_0) (show 0 ≤ (z11_0 : Int32).toInt ∧ (z11_0 : Int32).toInt ≤ 1 from by omega)
                    have hfc := fr_c hfc (k := 43) (j := (y7_1 : Int32).toNatClampNeg) (x := z11_0) (by decide +kernel)
                    refine lv_aload_n hx hb dX12_lookAround_198 rfl (lv_at hl 2 rfl) ?_
                    refine mget_44 hx hb hts (fun _ h => List.mem_cons_of_mem _ (List.mem_append_right _ h)) hown hK hP (hts (.fieldLink RX12 89 "TalePlayModel" "reached" "[Z") (List.mem_cons_of_mem _ (List.mem_append_left _ (List.mem_append_right _ (List.mem_append_left _ (List.mem_of_getElem? (i := 4) rfl)))))) dX12_lookAround_199 ?_
                    refine lv_iload_n hx hb dX12_lookAround_202 rfl (lv_at hl 1 rfl) ?_
                    refine lv_aload_n hx hb dX12_lookAround_203 rfl (lv_at hl 2 rfl) ?_
                    refine mget_43 hx hb hts (fun _ h => List.mem_cons_of_mem _ (List.mem_append_right _ h)) hown hK hP (hts (.fieldLink RX12 86 "TalePlayModel" "seen" "[Z") (List.mem_cons_of_mem _ (List.mem_append_left _ (List.mem_append_right _ (List.mem_append_left _ (List.mem_of_getElem? (i := 3) rfl)))))) dX12_lookAround_204 ?_
                    refine lv_iload_n hx hb dX12_lookAround_207 rfl (lv_at hl 1 rfl) ?_
                    refine mld_43 hx hb hK hP (vp_in_iff.mpr (by have h9 : y7_1.toInt = y7_1.toInt := rfl; omega)) dX12_lookAround_208 (fun x12 ex12 => ?_)
                    have rx12 : 0 ≤ x12.toInt ∧ x12.toInt ≤ 1 := by rw [ex12]; exact hI.2 43 _
                    have jn13 : ∀ (z13_0 : Int32), (z13_0.toInt = 0 ∨ z13_0.toInt = 1) → (Im (z13_0.toInt = 1) (y7_1.toInt = (i 22).toInt ∨ (c 49 y7_1.toNatClampNeg).toInt = 1 ∨ Ch (nF (i 5).toInt (c 23) (c 24)) y7_1.toInt ((i7 41) : Int32).toInt)) → ∀ (H : Heap) (locs : List Loc) (ls : Array Slot), va_P D vwCl (mW o a t i7 q7 (updA c7 43 (y7_1 : Int32).toNatClampNeg z11_0) d7) H → va_D A (mW o a t i7 q7 (updA c7 43 (y7_1 : Int32).toNatClampNeg z11_0) d7) → va_S A s.heap H locs → lv_has ls 3 [(2, .int z10_0), (1, .int y7_1), (0, .ref o)] → W p l e (headSpec wm_X12_lookAround ({ frames := 2, cells := 0, slots := 0, locals := 47 })).room s m ([.ref o] : List Value).toArray below meth cd H locs 0 0 (MQ below (va_Qv (fun (u : MS) => True ∧ mInv u.1 u.2.2.1 ∧ (∀ k, k ∉ ([40, 41, 42] : List Nat) → u.1 k = i k) ∧ (∀ k, k ∉ ([43, 44] : List Nat) → u.2.2.1 k = c k) ∧ (RQ (u.2.2.1 44) (c 49) (nF (i 5).toInt (c 23) (c 24)) (i 22).toInt (i 5).toInt)) (oC D A (fun u : MS => mW o a t u.1 u.2.1 u.2.2.1 u.2.2.2) (fun _ => [])) A) ([.ref o] : List Value).toArray s 0 0 A) (F0 m 230 ls [.int z13_0, .int y7_1, .ref (a 44)]) := by
                      intro z13_0 hs13_0 hz13_0 H locs ls hP hD hS hl
                      refine mst_44 hx hb hK hP hD hS (vp_in_iff.mpr (by have h9 : y7_1.toInt = y7_1.toInt := rfl; omega)) (nb_z (show 0 ≤ (z13_0 : Int32).toInt ∧ (z13_0 : Int32).toInt ≤ 1 from by omega)) dX12_lookAround_230 (fun H locs hP hD hS => ?_)
                      have hI := mInv_c hI (k := 44) (j := (y7_1 : Int32).toNatClampNeg) (x := z13_0) (show 0 ≤ (z13_0 : Int32).toInt ∧ (z13_0 : Int32).toInt ≤ 1 from by omega)
                      have hfc := fr_c hfc (k := 44) (j := (y7_1 : Int32).toNatClampNeg) (x := z13_0) (by decide +kernel)
                      obtain ⟨x14, ex14⟩ : ∃ y : Int32, y = y7_1 + 1 := ⟨_, rfl⟩
                      have tx14 := ti_add (a := y7_1.toInt) (b := 1) ex14 rfl (by decide +kernel) (by omega) (by omega)
                      refine lv_iinc (v := x14) (lv' := [(1, .int x14), (2, .int z10_0), (0, .ref o)]) hx hb dX12_lookAround_231 hl (k := 1) rfl (by rw [ex14]; rfl) (by decide +kernel) rfl (fun ls hl => ?_)
                      refine lv_goto (tgt := 116) hx hb dX12_lookAround_234 (by decide +kernel) ?_
                      exact ih7 i7 q7 (updA (updA c7 43 (y7_1 : Int32).toNatClampNeg z11_0) 44 (y7_1 : Int32).toNatClampNeg z13_0) d7 x14 hI (fr_w hfi (by decide +kernel)) (fr_w hfc (by decide +kernel)) (show 0 ≤ x14.toInt ∧ x14.toInt ≤ 30 from by have h50 : x14.toInt = (y7_1.toInt + 1) := tx14; omega) (show 0 ≤ ((i7 40) : Int32).toInt ∧ ((i7 40) : Int32).toInt < (i 5).toInt from by have h50 : x14.toInt = (y7_1.toInt + 1) := tx14; omega) (show 0 ≤ ((i7 41) : Int32).toInt ∧ ((i7 41) : Int32).toInt < (i 5).toInt ∧ Ch (nF (i 5).toInt (c 23) (c 24)) (i 22).toInt ((i7 41) : Int32).toInt from hz7_1) (show RQ ((updA (updA c7 43 (y7_1 : Int32).toNatClampNeg z11_0) 44 (y7_1 : Int32).toNatClampNeg z13_0) 44) (c 49) (nF (i 5).toInt (c 23) (c 24)) (i 22).toInt x14.toInt from RQ_a hz7_2 (by omega) tx14 hz13_0 ⟨hz7_1.1, hz7_1.2.2⟩) (by have h50 : x14.toInt = (y7_1.toInt + 1) := tx14; omega) _ _ _ hP hD hS (lv_sub hl [0, 2] rfl)
                    have jn15 : ∀ (H : Heap) (locs : List Loc) (ls : Array Slot), va_P D vwCl (mW o a t i7 q7 (updA c7 43 (y7_1 : Int32).toNatClampNeg z11_0) d7) H → va_D A (mW o a t i7 q7 (updA c7 43 (y7_1 : Int32).toNatClampNeg z11_0) d7) → va_S A s.heap H locs → lv_has ls 3 [(2, .int z10_0), (1, .int y7_1), (0, .ref o)] → W p l e (headSpec wm_X12_lookAround ({ frames := 2, cells := 0, slots := 0, locals := 47 })).room s m ([.ref o] : List Value).toArray below meth cd H locs 0 0 (MQ below (va_Qv (fun (u : MS) => True ∧ mInv u.1 u.2.2.1 ∧ (∀ k, k ∉ ([40, 41, 42] : List Nat) → u.1 k = i k) ∧ (∀ k, k ∉ ([43, 44] : List Nat) → u.2.2.1 k = c k) ∧ (RQ (u.2.2.1 44) (c 49) (nF (i 5).toInt (c 23) (c 24)) (i 22).toInt (i 5).toInt)) (oC D A (fun u : MS => mW o a t u.1 u.2.1 u.2.2.1 u.2.2.2) (fun _ => [])) A) ([.ref o] : List Value).toArray s 0 0 A) (F0 m 229 ls [.int y7_1, .ref (a 44)]) := by
                      intro H locs ls hP hD hS hl
                      refine lv_iconst (v := 0) hx hb dX12_lookAround_229 (by decide +kernel) ?_
                      exact jn13  (0 : Int32) (show (0 : Int32).toInt = 0 ∨ (0 : Int32).toInt = 1 from by decide +kernel) (show Im ((0 : Int32).toInt = 1) (y7_1.toInt = (i 22).toInt ∨ (c 49 y7_1.toNatClampNeg).toInt = 1 ∨ Ch (nF (i 5).toInt (c 23) (c 24)) y7_1.toInt ((i7 41) : Int32).toInt) from fun h9 => absurd h9 (by decide +kernel)) _ _ _ hP hD hS (lv_sub hl [0, 1, 2] rfl)
                    refine lv_if_eq (tgt := 229) hx hb dX12_lookAround_209 (by decide +kernel) (fun c16 => ?_) (fun c16 => ?_)
                    · have f16 := (ti_eq (a := x12.toInt) (b := 0) rfl (by decide +kernel)).mp c16
                      exact jn15    _ _ _ hP hD hS (lv_sub hl [0, 1, 2] rfl)
                    · have f16 := mt (ti_eq (a := x12.toInt) (b := 0) rfl (by decide +kernel)).mpr c16
                      refine lv_aload_n hx hb dX12_lookAround_212 rfl (lv_at hl 2 rfl) ?_
                      refine lv_iload_n hx hb dX12_lookAround_213 rfl (lv_at hl 1 rfl) ?_
                      refine lv_aload_n hx hb dX12_lookAround_214 rfl (lv_at hl 2 rfl) ?_
                      refine mget_41 (v := (i7 41)) rfl hx hb hts (fun _ h => List.mem_cons_of_mem _ (List.mem_append_right _ h)) hown hK hP (hts (.fieldLink RX12 338 "TalePlayModel" "handShell" "I") (List.mem_cons_of_mem _ (List.mem_append_left _ (List.mem_append_right _ (List.mem_append_left _ (List.mem_of_getElem? (i := 0) rfl)))))) dX12_lookAround_215 ?_
                      have rb41_i7 : 0 ≤ (i7 41).toInt ∧ (i7 41).toInt ≤ 29 := hI.1 41
                      refine lv_iconst (v := 1) hx hb dX12_lookAround_218 (by decide +kernel) ?_
                      refine ro_calli (va_runV (As := [.int y7_1, .int (i7 41), .int 1]) (rest := [.int y7_1, .ref (a 44)]) ⟨hx, hb, hml, hown, hts⟩ (s_X12_isInView l D H.size o a t i7 q7 (updA c7 43 (y7_1 : Int32).toNatClampNeg z11_0) d7 y7_1 (i7 41) 1 hI (show 0 ≤ y7_1.toInt ∧ y7_1.toInt < ((i7 5) : Int32).toInt from by have h92 : (1 : Int32).toInt = 1 := (by decide +kernel); omega) (show 0 ≤ (i7 41).toInt ∧ (i7 41).toInt < ((i7 5) : Int32).toInt from by have h92 : (1 : Int32).toInt = 1 := (by decide +kernel); omega) (by rw [show (updA c7 43 (y7_1 : Int32).toNatClampNeg z11_0) 3 = c 3 from hfc 3 (by decide +kernel), show (updA c7 43 (y7_1 : Int32).toNatClampNeg z11_0) 6 = c 6 from hfc 6 (by decide +kernel), show (updA c7 43 (y7_1 : Int32).toNatClampNeg z11_0) 23 = c 23 from hfc 23 (by decide +kernel), show (updA c7 43 (y7_1 : Int32).toNatClampNeg z11_0) 24 = c 24 from hfc 24 (by decide +kernel), show i7 5 = i 5 from hfi 5 (by decide +kernel), show i7 22 = i 22 from hfi 22 (by decide +kernel)]; exact hs_T)) (cwV 3 hts gm_X12_lookAround_X12_isInView rfl rfl rfl (by decide +kernel) ⟨Nat.le_of_ble_eq_true rfl, Nat.le_of_ble_eq_true rfl⟩) (pA_V hK hP (ci := 12) (q0 := 0) rfl rfl) rfl rfl hl.1 rfl (lv_room (Nat.le_of_ble_eq_true rfl)) dX12_lookAround_219 ⟨Nat.le_of_ble_eq_true rfl, Nat.le_of_ble_eq_true rfl⟩) hS hA hP (fun r17 u17 H locs hw17 hP hS => ?_)
                      have hw17 : ((0 ≤ r17.toInt ∧ r17.toInt ≤ 1) ∧ (Im (r17.toInt = 1) (y7_1.toInt = (i7 22).toInt ∨ ((updA c7 43 (y7_1 : Int32).toNatClampNeg z11_0) 49 y7_1.toNatClampNeg).toInt = 1 ∨ Ch (nF (i7 5).toInt ((updA c7 43 (y7_1 : Int32).toNatClampNeg z11_0) 23) ((updA c7 43 (y7_1 : Int32).toNatClampNeg z11_0) 24)) y7_1.toInt (i7 41).toInt))) := hw17
                      obtain ⟨hw17, hr17_0⟩ := hw17
                      have hr17_0 : Im (r17.toInt = 1) (y7_1.toInt = (i 22).toInt ∨ (c 49 y7_1.toNatClampNeg).toInt = 1 ∨ Ch (nF (i 5).toInt (c 23) (c 24)) y7_1.toInt (i7 41).toInt) := by have h9 := hr17_0; rw [show (updA c7 43 (y7_1 : Int32).toNatClampNeg z11_0) 23 = c 23 from hfc 23 (by decide +kernel), show (updA c7 43 (y7_1 : Int32).toNatClampNeg z11_0) 24 = c 24 from hfc 24 (by decide +kernel), show (updA c7 43 (y7_1 : Int32).toNatClampNeg z11_0) 49 = c 49 from hfc 49 (by decide +kernel), show i7 5 = i 5 from hfi 5 (by decide +kernel), show i7 22 = i 22 from hfi 22 (by decide +kernel)] at h9; exact h9
                      refine lv_if_eq (tgt := 229) hx hb dX12_lookAround_222 (by decide +kernel) (fun c18 => ?_) (fun c18 => ?_)
                      · have f18 := (ti_eq (a := r17.toInt) (b := 0) rfl (by decide +kernel)).mp c18
                        exact jn15    _ _ _ hP hD hS (lv_sub hl [0, 1, 2] rfl)
                      · have f18 := mt (ti_eq (a := r17.toInt) (b := 0) rfl (by decide +kernel)).mpr c18
                        refine lv_iconst (v := 1) hx hb dX12_lookAround_225 (by decide +kernel) ?_
                        refine lv_goto (tgt := 230) hx hb dX12_lookAround_226 (by decide +kernel) ?_
                        exact jn13  (1 : Int32) (show (1 : Int32).toInt = 0 ∨ (1 : Int32).toInt = 1 from by decide +kernel) (show Im ((1 : Int32).toInt = 1) (y7_1.toInt = (i 22).toInt ∨ (c 49 y7_1.toNatClampNeg).toInt = 1 ∨ Ch (nF (i 5).toInt (c 23) (c 24)) y7_1.toInt ((i7 41) : Int32).toInt) from fun _ => hr17_0 (by omega)) _ _ _ hP hD hS (lv_sub hl [0, 1, 2] rfl)
                  have jn19 : ∀ (H : Heap) (locs : List Loc) (ls : Array Slot), va_P D vwCl (mW o a t i7 q7 c7 d7) H → va_D A (mW o a t i7 q7 c7 d7) → va_S A s.heap H locs → lv_has ls 3 [(2, .int z10_0), (1, .int y7_1), (0, .ref o)] → W p l e (headSpec wm_X12_lookAround ({ frames := 2, cells := 0, slots := 0, locals := 47 })).room s m ([.ref o] : List Value).toArray below meth cd H locs 0 0 (MQ below (va_Qv (fun (u : MS) => True ∧ mInv u.1 u.2.2.1 ∧ (∀ k, k ∉ ([40, 41, 42] : List Nat) → u.1 k = i k) ∧ (∀ k, k ∉ ([43, 44] : List Nat) → u.2.2.1 k = c k) ∧ (RQ (u.2.2.1 44) (c 49) (nF (i 5).toInt (c 23) (c 24)) (i 22).toInt (i 5).toInt)) (oC D A (fun u : MS => mW o a t u.1 u.2.1 u.2.2.1 u.2.2.2) (fun _ => [])) A) ([.ref o] : List Value).toArray s 0 0 A) (F0 m 192 ls [.int y7_1, .ref (a 43)]) := by
                    intro H locs ls hP hD hS hl
                    refine lv_iconst (v := 1) hx hb dX12_lookAround_192 (by decide +kernel) ?_
                    refine lv_goto (tgt := 197) hx hb dX12_lookAround_193 (by decide +kernel) ?_
                    exact jn11  (1 : Int32) (show (1 : Int32).toInt = 0 ∨ (1 : Int32).toInt = 1 from by decide +kernel) _ _ _ hP hD hS (lv_sub hl [0, 1, 2] rfl)
                  refine lv_if_ne (tgt := 192) hx hb dX12_lookAround_169 (by decide +kernel) (fun c20 => ?_) (fun c20 => ?_)
                  · have f20 := mt (ti_eq (a := z10_0.toInt) (b := 0) rfl (by decide +kernel)).mpr c20
                    exact jn19    _ _ _ hP hD hS (lv_sub hl [0, 1, 2] rfl)
                  · have f20 := (ti_eq (a := z10_0.toInt) (b := 0) rfl (by decide +kernel)).mp c20
                    refine lv_aload_n hx hb dX12_lookAround_172 rfl (lv_at hl 2 rfl) ?_
                    refine mget_42 (v := (i7 42)) rfl hx hb hts (fun _ h => List.mem_cons_of_mem _ (List.mem_append_right _ h)) hown hK hP (hts (.fieldLink RX12 341 "TalePlayModel" "isLight" "Z") (List.mem_cons_of_mem _ (List.mem_append_left _ (List.mem_append_right _ (List.mem_append_left _ (List.mem_of_getElem? (i := 1) rfl)))))) dX12_lookAround_173 ?_
                    have rb42_i7 : 0 ≤ (i7 42).toInt ∧ (i7 42).toInt ≤ 1 := hI.1 42
                    have jn21 : ∀ (H : Heap) (locs : List Loc) (ls : Array Slot), va_P D vwCl (mW o a t i7 q7 c7 d7) H → va_D A (mW o a t i7 q7 c7 d7) → va_S A s.heap H locs → lv_has ls 3 [(2, .int z10_0), (1, .int y7_1), (0, .ref o)] → W p l e (headSpec wm_X12_lookAround ({ frames := 2, cells := 0, slots := 0, locals := 47 })).room s m ([.ref o] : List Value).toArray below meth cd H locs 0 0 (MQ below (va_Qv (fun (u : MS) => True ∧ mInv u.1 u.2.2.1 ∧ (∀ k, k ∉ ([40, 41, 42] : List Nat) → u.1 k = i k) ∧ (∀ k, k ∉ ([43, 44] : List Nat) → u.2.2.1 k = c k) ∧ (RQ (u.2.2.1 44) (c 49) (nF (i 5).toInt (c 23) (c 24)) (i 22).toInt (i 5).toInt)) (oC D A (fun u : MS => mW o a t u.1 u.2.1 u.2.2.1 u.2.2.2) (fun _ => [])) A) ([.ref o] : List Value).toArray s 0 0 A) (F0 m 196 ls [.int y7_1, .ref (a 43)]) := by
                      intro H locs ls hP hD hS hl
                      refine lv_iconst (v := 0) hx hb dX12_lookAround_196 (by decide +kernel) ?_
                      exact jn11  (0 : Int32) (show (0 : Int32).toInt = 0 ∨ (0 : Int32).toInt = 1 from by decide +kernel) _ _ _ hP hD hS (lv_sub hl [0, 1, 2] rfl)
                    refine lv_if_eq (tgt := 196) hx hb dX12_lookAround_176 (by decide +kernel) (fun c22 => ?_) (fun c22 => ?_)
                    · have f22 := (ti_eq (a := (i7 42).toInt) (b := 0) rfl (by decide +kernel)).mp c22
                      exact jn21    _ _ _ hP hD hS (lv_sub hl [0, 1, 2] rfl)
                    · have f22 := mt (ti_eq (a := (i7 42).toInt) (b := 0) rfl (by decide +kernel)).mpr c22
                      refine lv_aload_n hx hb dX12_lookAround_179 rfl (lv_at hl 2 rfl) ?_
                      refine lv_iload_n hx hb dX12_lookAround_180 rfl (lv_at hl 1 rfl) ?_
                      refine lv_aload_n hx hb dX12_lookAround_181 rfl (lv_at hl 2 rfl) ?_
                      refine mget_40 (v := (i7 40)) rfl hx hb hts (fun _ h => List.mem_cons_of_mem _ (List.mem_append_right _ h)) hown hK hP (hts (.fieldLink RX12 335 "TalePlayModel" "shell" "I") (List.mem_cons_of_mem _ (List.mem_append_left _ (List.mem_append_left _ (List.mem_of_getElem? (i := 15) rfl))))) dX12_lookAround_182 ?_
                      have rb40_i7 : 0 ≤ (i7 40).toInt ∧ (i7 40).toInt ≤ 29 := hI.1 40
                      refine lv_iconst (v := 0) hx hb dX12_lookAround_185 (by decide +kernel) ?_
                      refine ro_calli (va_runV (As := [.int y7_1, .int (i7 40), .int 0]) (rest := [.int y7_1, .ref (a 43)]) ⟨hx, hb, hml, hown, hts⟩ (s_X12_isInView l D H.size o a t i7 q7 c7 d7 y7_1 (i7 40) 0 hI (show 0 ≤ y7_1.toInt ∧ y7_1.toInt < ((i7 5) : Int32).toInt from by have h92 : (0 : Int32).toInt = 0 := (by decide +kernel); omega) (show 0 ≤ (i7 40).toInt ∧ (i7 40).toInt < ((i7 5) : Int32).toInt from by have h92 : (0 : Int32).toInt = 0 := (by decide +kernel); omega) (by rw [show c7 3 = c 3 from hfc 3 (by decide +kernel), show c7 6 = c 6 from hfc 6 (by decide +kernel), show c7 23 = c 23 from hfc 23 (by decide +kernel), show c7 24 = c 24 from hfc 24 (by decide +kernel), show i7 5 = i 5 from hfi 5 (by decide +kernel), show i7 22 = i 22 from hfi 22 (by decide +kernel)]; exact hs_T)) (cwV 3 hts gm_X12_lookAround_X12_isInView rfl rfl rfl (by decide +kernel) ⟨Nat.le_of_ble_eq_true rfl, Nat.le_of_ble_eq_true rfl⟩) (pA_V hK hP (ci := 12) (q0 := 0) rfl rfl) rfl rfl hl.1 rfl (lv_room (Nat.le_of_ble_eq_true rfl)) dX12_lookAround_186 ⟨Nat.le_of_ble_eq_true rfl, Nat.le_of_ble_eq_true rfl⟩) hS hA hP (fun r23 u23 H locs hw23 hP hS => ?_)
                      have hw23 : ((0 ≤ r23.toInt ∧ r23.toInt ≤ 1) ∧ (Im (r23.toInt = 1) (y7_1.toInt = (i7 22).toInt ∨ (c7 49 y7_1.toNatClampNeg).toInt = 1 ∨ Ch (nF (i7 5).toInt (c7 23) (c7 24)) y7_1.toInt (i7 40).toInt))) := hw23
                      obtain ⟨hw23, hr23_0⟩ := hw23
                      have hr23_0 : Im (r23.toInt = 1) (y7_1.toInt = (i 22).toInt ∨ (c 49 y7_1.toNatClampNeg).toInt = 1 ∨ Ch (nF (i 5).toInt (c 23) (c 24)) y7_1.toInt (i7 40).toInt) := by have h9 := hr23_0; rw [show c7 23 = c 23 from hfc 23 (by decide +kernel), show c7 24 = c 24 from hfc 24 (by decide +kernel), show c7 49 = c 49 from hfc 49 (by decide +kernel), show i7 5 = i 5 from hfi 5 (by decide +kernel), show i7 22 = i 22 from hfi 22 (by decide +kernel)] at h9; exact h9
                      refine lv_if_eq (tgt := 196) hx hb dX12_lookAround_189 (by decide +kernel) (fun c24 => ?_) (fun c24 => ?_)
                      · have f24 := (ti_eq (a := r23.toInt) (b := 0) rfl (by decide +kernel)).mp c24
                        exact jn21    _ _ _ hP hD hS (lv_sub hl [0, 1, 2] rfl)
                      · have f24 := mt (ti_eq (a := r23.toInt) (b := 0) rfl (by decide +kernel)).mpr c24
                        exact jn19    _ _ _ hP hD hS (lv_sub hl [0, 1, 2] rfl)
                have jn25 : ∀ (H : Heap) (locs : List Loc) (ls : Array Slot), va_P D vwCl (mW o a t i7 q7 c7 d7) H → va_D A (mW o a t i7 q7 c7 d7) → va_S A s.heap H locs → lv_has ls 3 [(1, .int y7_1), (0, .ref o)] → W p l e (headSpec wm_X12_lookAround ({ frames := 2, cells := 0, slots := 0, locals := 47 })).room s m ([.ref o] : List Value).toArray below meth cd H locs 0 0 (MQ below (va_Qv (fun (u : MS) => True ∧ mInv u.1 u.2.2.1 ∧ (∀ k, k ∉ ([40, 41, 42] : List Nat) → u.1 k = i k) ∧ (∀ k, k ∉ ([43, 44] : List Nat) → u.2.2.1 k = c k) ∧ (RQ (u.2.2.1 44) (c 49) (nF (i 5).toInt (c 23) (c 24)) (i 22).toInt (i 5).toInt)) (oC D A (fun u : MS => mW o a t u.1 u.2.1 u.2.2.1 u.2.2.2) (fun _ => [])) A) ([.ref o] : List Value).toArray s 0 0 A) (F0 m 161 ls []) := by
                  intro H locs ls hP hD hS hl
                  refine lv_iconst (v := 0) hx hb dX12_lookAround_161 (by decide +kernel) ?_
                  exact jn10  (0 : Int32) (show (0 : Int32).toInt = 0 ∨ (0 : Int32).toInt = 1 from by decide +kernel) _ _ _ hP hD hS (lv_sub hl [0, 1] rfl)
                refine lv_icmp_ne (tgt := 161) hx hb dX12_lookAround_134 (by decide +kernel) (fun c26 => ?_) (fun c26 => ?_)
                · have f26 := mt (ti_eq (a := x9.toInt) (b := (i7 22).toInt) rfl rfl).mpr c26
                  exact jn25    _ _ _ hP hD hS (lv_sub hl [0, 1] rfl)
                · have f26 := (ti_eq (a := x9.toInt) (b := (i7 22).toInt) rfl rfl).mp c26
                  refine lv_aload_n hx hb dX12_lookAround_137 rfl (lv_at hl 1 rfl) ?_
                  refine mget_23 hx hb hts (fun _ h => List.mem_cons_of_mem _ (List.mem_append_right _ h)) hown hK hP (hts (.fieldLink RX12 50 "TalePlayModel" "nForm" "[I") (List.mem_cons_of_mem _ (List.mem_append_left _ (List.mem_append_right _ (List.mem_append_left _ (List.mem_of_getElem? (i := 10) rfl)))))) dX12_lookAround_138 ?_
                  refine lv_iload_n hx hb dX12_lookAround_141 rfl (lv_at hl 0 rfl) ?_
                  refine mld_23 hx hb hK hP (vp_in_iff.mpr (by have h9 : y7_1.toInt = y7_1.toInt := rfl; omega)) dX12_lookAround_142 (fun x27 ex27 => ?_)
                  have rx27 : x27.toInt = -9 ∨ (0 ≤ x27.toInt ∧ x27.toInt ≤ 4) := by rw [ex27]; exact hI.2 23 _
                  refine lv_iconst (v := 2) hx hb dX12_lookAround_143 (by decide +kernel) ?_
                  have jn28 : ∀ (H : Heap) (locs : List Loc) (ls : Array Slot), va_P D vwCl (mW o a t i7 q7 c7 d7) H → va_D A (mW o a t i7 q7 c7 d7) → va_S A s.heap H locs → lv_has ls 3 [(1, .int y7_1), (0, .ref o)] → W p l e (headSpec wm_X12_lookAround ({ frames := 2, cells := 0, slots := 0, locals := 47 })).room s m ([.ref o] : List Value).toArray below meth cd H locs 0 0 (MQ below (va_Qv (fun (u : MS) => True ∧ mInv u.1 u.2.2.1 ∧ (∀ k, k ∉ ([40, 41, 42] : List Nat) → u.1 k = i k) ∧ (∀ k, k ∉ ([43, 44] : List Nat) → u.2.2.1 k = c k) ∧ (RQ (u.2.2.1 44) (c 49) (nF (i 5).toInt (c 23) (c 24)) (i 22).toInt (i 5).toInt)) (oC D A (fun u : MS => mW o a t u.1 u.2.1 u.2.2.1 u.2.2.2) (fun _ => [])) A) ([.ref o] : List Value).toArray s 0 0 A) (F0 m 157 ls []) := by
                    intro H locs ls hP hD hS hl
                    refine lv_iconst (v := 1) hx hb dX12_lookAround_157 (by decide +kernel) ?_
                    refine lv_goto (tgt := 162) hx hb dX12_lookAround_158 (by decide +kernel) ?_
                    exact jn10  (1 : Int32) (show (1 : Int32).toInt = 0 ∨ (1 : Int32).toInt = 1 from by decide +kernel) _ _ _ hP hD hS (lv_sub hl [0, 1] rfl)
                  refine lv_icmp_eq (tgt := 157) hx hb dX12_lookAround_144 (by decide +kernel) (fun c29 => ?_) (fun c29 => ?_)
                  · have f29 := (ti_eq (a := x27.toInt) (b := 2) rfl (by decide +kernel)).mp c29
                    exact jn28    _ _ _ hP hD hS (lv_sub hl [0, 1] rfl)
                  · have f29 := mt (ti_eq (a := x27.toInt) (b := 2) rfl (by decide +kernel)).mpr c29
                    refine lv_aload_n hx hb dX12_lookAround_147 rfl (lv_at hl 1 rfl) ?_
                    refine mget_23 hx hb hts (fun _ h => List.mem_cons_of_mem _ (List.mem_append_right _ h)) hown hK hP (hts (.fieldLink RX12 50 "TalePlayModel" "nForm" "[I") (List.mem_cons_of_mem _ (List.mem_append_left _ (List.mem_append_right _ (List.mem_append_left _ (List.mem_of_getElem? (i := 10) rfl)))))) dX12_lookAround_148 ?_
                    refine lv_iload_n hx hb dX12_lookAround_151 rfl (lv_at hl 0 rfl) ?_
                    refine mld_23 hx hb hK hP (vp_in_iff.mpr (by have h9 : y7_1.toInt = y7_1.toInt := rfl; omega)) dX12_lookAround_152 (fun x30 ex30 => ?_)
                    have rx30 : x30.toInt = -9 ∨ (0 ≤ x30.toInt ∧ x30.toInt ≤ 4) := by rw [ex30]; exact hI.2 23 _
                    refine lv_iconst (v := 3) hx hb dX12_lookAround_153 (by decide +kernel) ?_
                    refine lv_icmp_ne (tgt := 161) hx hb dX12_lookAround_154 (by decide +kernel) (fun c31 => ?_) (fun c31 => ?_)
                    · have f31 := mt (ti_eq (a := x30.toInt) (b := 3) rfl (by decide +kernel)).mpr c31
                      exact jn25    _ _ _ hP hD hS (lv_sub hl [0, 1] rfl)
                    · have f31 := (ti_eq (a := x30.toInt) (b := 3) rfl (by decide +kernel)).mp c31
                      exact jn28    _ _ _ hP hD hS (lv_sub hl [0, 1] rfl)
          exact lp7 _ i5 q5 c5 d5 (0 : Int32) hI (fr_w hfi (by decide +kernel)) (fr_w hfc (by decide +kernel)) (show 0 ≤ (0 : Int32).toInt ∧ (0 : Int32).toInt ≤ 30 from by decide +kernel) (show 0 ≤ ((i5 40) : Int32).toInt ∧ ((i5 40) : Int32).toInt < (i 5).toInt from by have h50 : (0 : Int32).toInt = 0 := (by decide +kernel); omega) (show 0 ≤ ((i5 41) : Int32).toInt ∧ ((i5 41) : Int32).toInt < (i 5).toInt ∧ Ch (nF (i 5).toInt (c 23) (c 24)) (i 22).toInt ((i5 41) : Int32).toInt from hz5_1) (show RQ (c5 44) (c 49) (nF (i 5).toInt (c 23) (c 24)) (i 22).toInt (0 : Int32).toInt from RQ_0 (by decide +kernel)) (Nat.lt_succ_self _) _ _ _ hP hD hS (lv_sub hl [0, 1] rfl)
        refine lv_icmp_ge (tgt := 114) hx hb dX12_lookAround_58 (by decide +kernel) (fun c32 => ?_) (fun c32 => ?_)
        · have f32 := (ti_le (a := (i5 5).toInt) (b := y5_1.toInt) rfl rfl).mp c32
          exact jn6    _ _ _ hP hD hS (lv_sub hl [0, 1] rfl)
        · have f32 := mt (ti_le (a := (i5 5).toInt) (b := y5_1.toInt) rfl rfl).mpr c32
          refine lv_aload_n hx hb dX12_lookAround_61 rfl (lv_at hl 1 rfl) ?_
          refine mget_42 (v := (i5 42)) rfl hx hb hts (fun _ h => List.mem_cons_of_mem _ (List.mem_append_right _ h)) hown hK hP (hts (.fieldLink RX12 341 "TalePlayModel" "isLight" "Z") (List.mem_cons_of_mem _ (List.mem_append_left _ (List.mem_append_right _ (List.mem_append_left _ (List.mem_of_getElem? (i := 1) rfl)))))) dX12_lookAround_62 ?_
          have rb42_i5 : 0 ≤ (i5 42).toInt ∧ (i5 42).toInt ≤ 1 := hI.1 42
          refine lv_if_ne (tgt := 114) hx hb dX12_lookAround_65 (by decide +kernel) (fun c33 => ?_) (fun c33 => ?_)
          · have f33 := mt (ti_eq (a := (i5 42).toInt) (b := 0) rfl (by decide +kernel)).mpr c33
            exact jn6    _ _ _ hP hD hS (lv_sub hl [0, 1] rfl)
          · have f33 := (ti_eq (a := (i5 42).toInt) (b := 0) rfl (by decide +kernel)).mp c33
            refine lv_aload_n hx hb dX12_lookAround_68 rfl (lv_at hl 1 rfl) ?_
            refine lv_aload_n hx hb dX12_lookAround_69 rfl (lv_at hl 1 rfl) ?_
            refine mget_48 hx hb hts (fun _ h => List.mem_cons_of_mem _ (List.mem_append_right _ h)) hown hK hP (hts (.fieldLink RX12 101 "TalePlayModel" "isRoom" "[Z") (List.mem_cons_of_mem _ (List.mem_append_left _ (List.mem_append_left _ (List.mem_of_getElem? (i := 7) rfl))))) dX12_lookAround_70 ?_
            refine lv_iload_n hx hb dX12_lookAround_73 rfl (lv_at hl 0 rfl) ?_
            refine mld_48 hx hb hK hP (vp_in_iff.mpr (by have h9 : y5_1.toInt = y5_1.toInt := rfl; omega)) dX12_lookAround_74 (fun x34 ex34 => ?_)
            have rx34 : 0 ≤ x34.toInt ∧ x34.toInt ≤ 1 := by rw [ex34]; exact hI.2 48 _
            have jn35 : ∀ (z35_0 : Int32), (z35_0.toInt = 0 ∨ z35_0.toInt = 1) → ∀ (H : Heap) (locs : List Loc) (ls : Array Slot), va_P D vwCl (mW o a t i5 q5 c5 d5) H → va_D A (mW o a t i5 q5 c5 d5) → va_S A s.heap H locs → lv_has ls 3 [(1, .int y5_1), (0, .ref o)] → W p l e (headSpec wm_X12_lookAround ({ frames := 2, cells := 0, slots := 0, locals := 47 })).room s m ([.ref o] : List Value).toArray below meth cd H locs 0 0 (MQ below (va_Qv (fun (u : MS) => True ∧ mInv u.1 u.2.2.1 ∧ (∀ k, k ∉ ([40, 41, 42] : List Nat) → u.1 k = i k) ∧ (∀ k, k ∉ ([43, 44] : List Nat) → u.2.2.1 k = c k) ∧ (RQ (u.2.2.1 44) (c 49) (nF (i 5).toInt (c 23) (c 24)) (i 22).toInt (i 5).toInt)) (oC D A (fun u : MS => mW o a t u.1 u.2.1 u.2.2.1 u.2.2.2) (fun _ => [])) A) ([.ref o] : List Value).toArray s 0 0 A) (F0 m 105 ls [.int z35_0, .ref o]) := by
              intro z35_0 hs35_0 H locs ls hP hD hS hl
              refine mput_42 hx hb hts (fun _ h => List.mem_cons_of_mem _ (List.mem_append_right _ h)) hown hK hP hD hS (hts (.fieldLink RX12 341 "TalePlayModel" "isLight" "Z") (List.mem_cons_of_mem _ (List.mem_append_left _ (List.mem_append_right _ (List.mem_append_left _ (List.mem_of_getElem? (i := 1) rfl)))))) (nb_n (show 0 ≤ z35_0.toInt ∧ z35_0.toInt ≤ 1 from by omega)) (nb_f (show 0 ≤ z35_0.toInt ∧ z35_0.toInt ≤ 1 from by omega)) dX12_lookAround_105 (fun H locs hP hD hS => ?_)
              have hI := mInv_i hI (k := 42) (v := z35_0) (show 0 ≤ (z35_0 : Int32).toInt ∧ (z35_0 : Int32).toInt ≤ 1 from by omega)
              have hfi := fr_i hfi (k := 42) (v := z35_0) (by decide +kernel)
              obtain ⟨x36, ex36⟩ : ∃ y : Int32, y = y5_1 + 1 := ⟨_, rfl⟩
              have tx36 := ti_add (a := y5_1.toInt) (b := 1) ex36 rfl (by decide +kernel) (by omega) (by omega)
              refine lv_iinc (v := x36) (lv' := [(1, .int x36), (0, .ref o)]) hx hb dX12_lookAround_108 hl (k := 0) rfl (by rw [ex36]; rfl) (by decide +kernel) rfl (fun ls hl => ?_)
              refine lv_goto (tgt := 53) hx hb dX12_lookAround_111 (by decide +kernel) ?_
              exact ih5 (upd i5 42 z35_0) q5 c5 d5 x36 hI (fr_w hfi (by decide +kernel)) (fr_w hfc (by decide +kernel)) (show 0 ≤ x36.toInt ∧ x36.toInt ≤ 30 from by have h50 : x36.toInt = (y5_1.toInt + 1) := tx36; omega) (show 0 ≤ ((i5 40) : Int32).toInt ∧ ((i5 40) : Int32).toInt < (i 5).toInt from by have h50 : x36.toInt = (y5_1.toInt + 1) := tx36; omega) (show 0 ≤ ((i5 41) : Int32).toInt ∧ ((i5 41) : Int32).toInt < (i 5).toInt ∧ Ch (nF (i 5).toInt (c 23) (c 24)) (i 22).toInt ((i5 41) : Int32).toInt from hz5_1) (by have h50 : x36.toInt = (y5_1.toInt + 1) := tx36; omega) _ _ _ hP hD hS (lv_sub hl [0, 1] rfl)
            have jn37 : ∀ (H : Heap) (locs : List Loc) (ls : Array Slot), va_P D vwCl (mW o a t i5 q5 c5 d5) H → va_D A (mW o a t i5 q5 c5 d5) → va_S A s.heap H locs → lv_has ls 3 [(1, .int y5_1), (0, .ref o)] → W p l e (headSpec wm_X12_lookAround ({ frames := 2, cells := 0, slots := 0, locals := 47 })).room s m ([.ref o] : List Value).toArray below meth cd H locs 0 0 (MQ below (va_Qv (fun (u : MS) => True ∧ mInv u.1 u.2.2.1 ∧ (∀ k, k ∉ ([40, 41, 42] : List Nat) → u.1 k = i k) ∧ (∀ k, k ∉ ([43, 44] : List Nat) → u.2.2.1 k = c k) ∧ (RQ (u.2.2.1 44) (c 49) (nF (i 5).toInt (c 23) (c 24)) (i 22).toInt (i 5).toInt)) (oC D A (fun u : MS => mW o a t u.1 u.2.1 u.2.2.1 u.2.2.2) (fun _ => [])) A) ([.ref o] : List Value).toArray s 0 0 A) (F0 m 104 ls [.ref o]) := by
              intro H locs ls hP hD hS hl
              refine lv_iconst (v := 0) hx hb dX12_lookAround_104 (by decide +kernel) ?_
              exact jn35  (0 : Int32) (show (0 : Int32).toInt = 0 ∨ (0 : Int32).toInt = 1 from by decide +kernel) _ _ _ hP hD hS (lv_sub hl [0, 1] rfl)
            refine lv_if_ne (tgt := 104) hx hb dX12_lookAround_75 (by decide +kernel) (fun c38 => ?_) (fun c38 => ?_)
            · have f38 := mt (ti_eq (a := x34.toInt) (b := 0) rfl (by decide +kernel)).mpr c38
              exact jn37    _ _ _ hP hD hS (lv_sub hl [0, 1] rfl)
            · have f38 := (ti_eq (a := x34.toInt) (b := 0) rfl (by decide +kernel)).mp c38
              refine lv_aload_n hx hb dX12_lookAround_78 rfl (lv_at hl 1 rfl) ?_
              refine mget_45 hx hb hts (fun _ h => List.mem_cons_of_mem _ (List.mem_append_right _ h)) hown hK hP (hts (.fieldLink RX12 92 "TalePlayModel" "lit" "[Z") (List.mem_cons_of_mem _ (List.mem_append_left _ (List.mem_append_right _ (List.mem_append_right _ (List.mem_of_getElem? (i := 4) rfl)))))) dX12_lookAround_79 ?_
              refine lv_iload_n hx hb dX12_lookAround_82 rfl (lv_at hl 0 rfl) ?_
              refine mld_45 hx hb hK hP (vp_in_iff.mpr (by have h9 : y5_1.toInt = y5_1.toInt := rfl; omega)) dX12_lookAround_83 (fun x39 ex39 => ?_)
              have rx39 : 0 ≤ x39.toInt ∧ x39.toInt ≤ 1 := by rw [ex39]; exact hI.2 45 _
              refine lv_if_eq (tgt := 104) hx hb dX12_lookAround_84 (by decide +kernel) (fun c40 => ?_) (fun c40 => ?_)
              · have f40 := (ti_eq (a := x39.toInt) (b := 0) rfl (by decide +kernel)).mp c40
                exact jn37    _ _ _ hP hD hS (lv_sub hl [0, 1] rfl)
              · have f40 := mt (ti_eq (a := x39.toInt) (b := 0) rfl (by decide +kernel)).mpr c40
                refine lv_aload_n hx hb dX12_lookAround_87 rfl (lv_at hl 1 rfl) ?_
                refine lv_iload_n hx hb dX12_lookAround_88 rfl (lv_at hl 0 rfl) ?_
                refine lv_aload_n hx hb dX12_lookAround_89 rfl (lv_at hl 1 rfl) ?_
                refine mget_40 (v := (i5 40)) rfl hx hb hts (fun _ h => List.mem_cons_of_mem _ (List.mem_append_right _ h)) hown hK hP (hts (.fieldLink RX12 335 "TalePlayModel" "shell" "I") (List.mem_cons_of_mem _ (List.mem_append_left _ (List.mem_append_left _ (List.mem_of_getElem? (i := 15) rfl))))) dX12_lookAround_90 ?_
                have rb40_i5 : 0 ≤ (i5 40).toInt ∧ (i5 40).toInt ≤ 29 := hI.1 40
                refine lv_iconst (v := 0) hx hb dX12_lookAround_93 (by decide +kernel) ?_
                have rb22_i5 : (i5 22).toInt = -9 ∨ (0 ≤ (i5 22).toInt ∧ (i5 22).toInt ≤ 29) := hI.1 22
                have re22_i5 : (i5 22).toInt = (i 22).toInt := congrArg Int32.toInt (hfi 22 (by decide +kernel))
                refine ro_calli (va_runV (As := [.int y5_1, .int (i5 40), .int 0]) (rest := [.ref o]) ⟨hx, hb, hml, hown, hts⟩ (s_X12_isInView l D H.size o a t i5 q5 c5 d5 y5_1 (i5 40) 0 hI (show 0 ≤ y5_1.toInt ∧ y5_1.toInt < ((i5 5) : Int32).toInt from by have h92 : (0 : Int32).toInt = 0 := (by decide +kernel); omega) (show 0 ≤ (i5 40).toInt ∧ (i5 40).toInt < ((i5 5) : Int32).toInt from by have h92 : (0 : Int32).toInt = 0 := (by decide +kernel); omega) (by rw [show c5 3 = c 3 from hfc 3 (by decide +kernel), show c5 6 = c 6 from hfc 6 (by decide +kernel), show c5 23 = c 23 from hfc 23 (by decide +kernel), show c5 24 = c 24 from hfc 24 (by decide +kernel), show i5 5 = i 5 from hfi 5 (by decide +kernel), show i5 22 = i 22 from hfi 22 (by decide +kernel)]; exact hs_T)) (cwV 3 hts gm_X12_lookAround_X12_isInView rfl rfl rfl (by decide +kernel) ⟨Nat.le_of_ble_eq_true rfl, Nat.le_of_ble_eq_true rfl⟩) (pA_V hK hP (ci := 12) (q0 := 0) rfl rfl) rfl rfl hl.1 rfl (lv_room (Nat.le_of_ble_eq_true rfl)) dX12_lookAround_94 ⟨Nat.le_of_ble_eq_true rfl, Nat.le_of_ble_eq_true rfl⟩) hS hA hP (fun r41 u41 H locs hw41 hP hS => ?_)
                have hw41 : ((0 ≤ r41.toInt ∧ r41.toInt ≤ 1) ∧ (Im (r41.toInt = 1) (y5_1.toInt = (i5 22).toInt ∨ (c5 49 y5_1.toNatClampNeg).toInt = 1 ∨ Ch (nF (i5 5).toInt (c5 23) (c5 24)) y5_1.toInt (i5 40).toInt))) := hw41
                obtain ⟨hw41, hr41_0⟩ := hw41
                have hr41_0 : Im (r41.toInt = 1) (y5_1.toInt = (i 22).toInt ∨ (c 49 y5_1.toNatClampNeg).toInt = 1 ∨ Ch (nF (i 5).toInt (c 23) (c 24)) y5_1.toInt (i5 40).toInt) := by have h9 := hr41_0; rw [show c5 23 = c 23 from hfc 23 (by decide +kernel), show c5 24 = c 24 from hfc 24 (by decide +kernel), show c5 49 = c 49 from hfc 49 (by decide +kernel), show i5 5 = i 5 from hfi 5 (by decide +kernel), show i5 22 = i 22 from hfi 22 (by decide +kernel)] at h9; exact h9
                refine lv_if_eq (tgt := 104) hx hb dX12_lookAround_97 (by decide +kernel) (fun c42 => ?_) (fun c42 => ?_)
                · have f42 := (ti_eq (a := r41.toInt) (b := 0) rfl (by decide +kernel)).mp c42
                  exact jn37    _ _ _ hP hD hS (lv_sub hl [0, 1] rfl)
                · have f42 := mt (ti_eq (a := r41.toInt) (b := 0) rfl (by decide +kernel)).mpr c42
                  refine lv_iconst (v := 1) hx hb dX12_lookAround_100 (by decide +kernel) ?_
                  refine lv_goto (tgt := 105) hx hb dX12_lookAround_101 (by decide +kernel) ?_
                  exact jn35  (1 : Int32) (show (1 : Int32).toInt = 0 ∨ (1 : Int32).toInt = 1 from by decide +kernel) _ _ _ hP hD hS (lv_sub hl [0, 1] rfl)
    exact lp5 _ (upd (upd (upd i 40 r1) 41 r2) 42 z4_0) q c d (0 : Int32) hI (fr_w hfi (by decide +kernel)) (fr_w hfc (by decide +kernel)) (show 0 ≤ (0 : Int32).toInt ∧ (0 : Int32).toInt ≤ 30 from by decide +kernel) (show 0 ≤ (r1 : Int32).toInt ∧ (r1 : Int32).toInt < (i 5).toInt from by have h50 : (0 : Int32).toInt = 0 := (by decide +kernel); omega) (show 0 ≤ (r2 : Int32).toInt ∧ (r2 : Int32).toInt < (i 5).toInt ∧ Ch (nF (i 5).toInt (c 23) (c 24)) (i 22).toInt (r2 : Int32).toInt from ⟨by omega, by omega, hr2_0.2⟩) (Nat.lt_succ_self _) _ _ _ hP hD hS (lv_sub hl [0, 1] rfl)
  have jn43 : ∀ (H : Heap) (locs : List Loc) (ls : Array Slot), va_P D vwCl (mW o a t (upd (upd i 40 r1) 41 r2) q c d) H → va_D A (mW o a t (upd (upd i 40 r1) 41 r2) q c d) → va_S A s.heap H locs → lv_has ls 3 [(0, .ref o)] → W p l e (headSpec wm_X12_lookAround ({ frames := 2, cells := 0, slots := 0, locals := 47 })).room s m ([.ref o] : List Value).toArray below meth cd H locs 0 0 (MQ below (va_Qv (fun (u : MS) => True ∧ mInv u.1 u.2.2.1 ∧ (∀ k, k ∉ ([40, 41, 42] : List Nat) → u.1 k = i k) ∧ (∀ k, k ∉ ([43, 44] : List Nat) → u.2.2.1 k = c k) ∧ (RQ (u.2.2.1 44) (c 49) (nF (i 5).toInt (c 23) (c 24)) (i 22).toInt (i 5).toInt)) (oC D A (fun u : MS => mW o a t u.1 u.2.1 u.2.2.1 u.2.2.2) (fun _ => [])) A) ([.ref o] : List Value).toArray s 0 0 A) (F0 m 47 ls [.ref o]) := by
    intro H locs ls hP hD hS hl
    refine lv_iconst (v := 0) hx hb dX12_lookAround_47 (by decide +kernel) ?_
    exact jn4  (0 : Int32) (show (0 : Int32).toInt = 0 ∨ (0 : Int32).toInt = 1 from by decide +kernel) _ _ _ hP hD hS (lv_sub hl [0] rfl)
  refine lv_if_eq (tgt := 47) hx hb dX12_lookAround_28 (by decide +kernel) (fun c44 => ?_) (fun c44 => ?_)
  · have f44 := (ti_eq (a := x3.toInt) (b := 0) rfl (by decide +kernel)).mp c44
    exact jn43    _ _ _ hP hD hS (lv_sub hl [0] rfl)
  · have f44 := mt (ti_eq (a := x3.toInt) (b := 0) rfl (by decide +kernel)).mpr c44
    refine lv_aload_n hx hb dX12_lookAround_31 rfl (lv_at hl 0 rfl) ?_
    refine mget_45 hx hb hts (fun _ h => List.mem_cons_of_mem _ (List.mem_append_right _ h)) hown hK hP (hts (.fieldLink RX12 92 "TalePlayModel" "lit" "[Z") (List.mem_cons_of_mem _ (List.mem_append_left _ (List.mem_append_right _ (List.mem_append_right _ (List.mem_of_getElem? (i := 4) rfl)))))) dX12_lookAround_32 ?_
    refine lv_aload_n hx hb dX12_lookAround_35 rfl (lv_at hl 0 rfl) ?_
    refine mget_40 (i := (upd (upd i 40 r1) 41 r2)) (v := r1) rfl hx hb hts (fun _ h => List.mem_cons_of_mem _ (List.mem_append_right _ h)) hown hK hP (hts (.fieldLink RX12 335 "TalePlayModel" "shell" "I") (List.mem_cons_of_mem _ (List.mem_append_left _ (List.mem_append_left _ (List.mem_of_getElem? (i := 15) rfl))))) dX12_lookAround_36 ?_
    refine mld_45 hx hb hK hP (vp_in_iff.mpr (by have h9 : r1.toInt = r1.toInt := rfl; omega)) dX12_lookAround_39 (fun x45 ex45 => ?_)
    have rx45 : 0 ≤ x45.toInt ∧ x45.toInt ≤ 1 := by rw [ex45]; exact hI.2 45 _
    refine lv_if_eq (tgt := 47) hx hb dX12_lookAround_40 (by decide +kernel) (fun c46 => ?_) (fun c46 => ?_)
    · have f46 := (ti_eq (a := x45.toInt) (b := 0) rfl (by decide +kernel)).mp c46
      exact jn43    _ _ _ hP hD hS (lv_sub hl [0] rfl)
    · have f46 := mt (ti_eq (a := x45.toInt) (b := 0) rfl (by decide +kernel)).mpr c46
      refine lv_iconst (v := 1) hx hb dX12_lookAround_43 (by decide +kernel) ?_
      refine lv_goto (tgt := 48) hx hb dX12_lookAround_44 (by decide +kernel) ?_
      exact jn4  (1 : Int32) (show (1 : Int32).toInt = 0 ∨ (1 : Int32).toInt = 1 from by decide +kernel) _ _ _ hP hD hS (lv_sub hl [0] rfl)

def wm_X12_lookAtKinds : List Cond := .code yX12_lookAtKinds cX12_lookAtKinds 2 none :: ((([.fieldLink RX12 177 "TalePlayModel" "objects" "I", .fieldLink RX12 92 "TalePlayModel" "lit" "[Z", .methodLink RX12 256 yX12_saidFlag, .instanceMethod yX12_saidFlag, .selects RX12 yX12_saidFlag yX12_saidFlag, .initialized RX12, .code yX12_saidFlag cX12_saidFlag 4 (some .int), .methodLink RX12 216 yX12_saidSo, .instanceMethod yX12_saidSo, .selects RX12 yX12_saidSo yX12_saidSo, .code yX12_saidSo cX12_saidSo 6 (some .int), .fieldLink RX12 202 "TalePlayModel" "sentences" "I", .fieldLink RX12 37 "TalePlayModel" "isSaid" "[Z", .fieldLink RX12 25 "TalePlayModel" "form" "[I", .fieldLink RX12 28 "TalePlayModel" "left" "[I", .fieldLink RX12 31 "TalePlayModel" "middle" "[I"] : List Cond) ++ ([.fieldLink RX12 34 "TalePlayModel" "right" "[I", .fieldLink RX12 19 "TalePlayModel" "kindOf" "[I", .methodLink RX12 184 yX12_isOf, .instanceMethod yX12_isOf, .selects RX12 yX12_isOf yX12_isOf, .code yX12_isOf cX12_isOf 4 (some .boolean), .fieldLink RX12 13 "TalePlayModel" "parentOf" "[I", .fieldLink RX12 16 "TalePlayModel" "defaults" "[I", .fieldLink RX12 98 "TalePlayModel" "isBox" "[Z", .fieldLink RX12 101 "TalePlayModel" "isRoom" "[Z", .fieldLink RX12 104 "TalePlayModel" "isDoor" "[Z", .fieldLink RX12 95 "TalePlayModel" "glass" "[Z"] : List Cond)) ++ wsX120)
set_option maxRecDepth 20000 in
theorem gm_X12_lookAtKinds_X12_saidFlag : GoodIn wm_X12_lookAtKinds (wsV RX12 256 RX12 yX12_saidFlag wm_X12_saidFlag) := goodIn_w (List.forall_mem_append.mpr ⟨List.forall_mem_cons.mpr ⟨List.mem_cons_of_mem _ (List.mem_append_left _ (List.mem_append_left _ (List.mem_of_getElem? (i := 2) rfl))), List.forall_mem_cons.mpr ⟨List.mem_cons_of_mem _ (List.mem_append_left _ (List.mem_append_left _ (List.mem_of_getElem? (i := 3) rfl))), List.forall_mem_cons.mpr ⟨List.mem_cons_of_mem _ (List.mem_append_left _ (List.mem_append_left _ (List.mem_of_getElem? (i := 4) rfl))), List.forall_mem_cons.mpr ⟨List.mem_cons_of_mem _ (List.mem_append_left _ (List.mem_append_left _ (List.mem_of_getElem? (i := 5) rfl))), (fun _ h => absurd h List.not_mem_nil)⟩⟩⟩⟩, List.forall_mem_cons.mpr ⟨List.mem_cons_of_mem _ (List.mem_append_left _ (List.mem_append_left _ (List.mem_of_getElem? (i := 6) rfl))), List.forall_mem_append.mpr ⟨List.forall_mem_append.mpr ⟨List.forall_mem_cons.mpr ⟨List.mem_cons_of_mem _ (List.mem_append_left _ (List.mem_append_left _ (List.mem_of_getElem? (i := 7) rfl))), List.forall_mem_cons.mpr ⟨List.mem_cons_of_mem _ (List.mem_append_left _ (List.mem_append_left _ (List.mem_of_getElem? (i := 8) rfl))), List.forall_mem_cons.mpr ⟨List.mem_cons_of_mem _ (List.mem_append_left _ (List.mem_append_left _ (List.mem_of_getElem? (i := 9) rfl))), List.forall_mem_cons.mpr ⟨List.mem_cons_of_mem _ (List.mem_append_left _ (List.mem_append_left _ (List.mem_of_getElem? (i := 5) rfl))), List.forall_mem_cons.mpr ⟨List.mem_cons_of_mem _ (List.mem_append_left _ (List.mem_append_left _ (List.mem_of_getElem? (i := 10) rfl))), List.forall_mem_cons.mpr ⟨List.mem_cons_of_mem _ (List.mem_append_left _ (List.mem_append_left _ (List.mem_of_getElem? (i := 11) rfl))), List.forall_mem_cons.mpr ⟨List.mem_cons_of_mem _ (List.mem_append_left _ (List.mem_append_left _ (List.mem_of_getElem? (i := 12) rfl))), List.forall_mem_cons.mpr ⟨List.mem_cons_of_mem _ (List.mem_append_left _ (List.mem_append_left _ (List.mem_of_getElem? (i := 13) rfl))), List.forall_mem_cons.mpr ⟨List.mem_cons_of_mem _ (List.mem_append_left _ (List.mem_append_left _ (List.mem_of_getElem? (i := 14) rfl))), List.forall_mem_cons.mpr ⟨List.mem_cons_of_mem _ (List.mem_append_left _ (List.mem_append_left _ (List.mem_of_getElem? (i := 15) rfl))), List.forall_mem_cons.mpr ⟨List.mem_cons_of_mem _ (List.mem_append_left _ (List.mem_append_right _ (List.mem_of_getElem? (i := 0) rfl))), List.forall_mem_cons.mpr ⟨List.mem_cons_of_mem _ (List.mem_append_left _ (List.mem_append_right _ (List.mem_of_getElem? (i := 1) rfl))), List.forall_mem_cons.mpr ⟨List.mem_cons_of_mem _ (List.mem_append_left _ (List.mem_append_right _ (List.mem_of_getElem? (i := 2) rfl))), List.forall_mem_cons.mpr ⟨List.mem_cons_of_mem _ (List.mem_append_left _ (List.mem_append_right _ (List.mem_of_getElem? (i := 3) rfl))), List.forall_mem_cons.mpr ⟨List.mem_cons_of_mem _ (List.mem_append_left _ (List.mem_append_right _ (List.mem_of_getElem? (i := 4) rfl))), List.forall_mem_cons.mpr ⟨List.mem_cons_of_mem _ (List.mem_append_left _ (List.mem_append_right _ (List.mem_of_getElem? (i := 5) rfl))), (fun _ h => absurd h List.not_mem_nil)⟩⟩⟩⟩⟩⟩⟩⟩⟩⟩⟩⟩⟩⟩⟩⟩, List.forall_mem_cons.mpr ⟨List.mem_cons_of_mem _ (List.mem_append_left _ (List.mem_append_right _ (List.mem_of_getElem? (i := 6) rfl))), List.forall_mem_cons.mpr ⟨List.mem_cons_of_mem _ (List.mem_append_left _ (List.mem_append_right _ (List.mem_of_getElem? (i := 7) rfl))), (fun _ h => absurd h List.not_mem_nil)⟩⟩⟩, (fun _ h => List.mem_cons_of_mem _ (List.mem_append_right _ h))⟩⟩⟩) (by decide +kernel)
set_option maxRecDepth 20000 in
theorem gm_X12_lookAtKinds_X12_isOf : GoodIn wm_X12_lookAtKinds (wsV RX12 184 RX12 yX12_isOf wm_X12_isOf) := goodIn_w (List.forall_mem_append.mpr ⟨List.forall_mem_cons.mpr ⟨List.mem_cons_of_mem _ (List.mem_append_left _ (List.mem_append_right _ (List.mem_of_getElem? (i := 2) rfl))), List.forall_mem_cons.mpr ⟨List.mem_cons_of_mem _ (List.mem_append_left _ (List.mem_append_right _ (List.mem_of_getElem? (i := 3) rfl))), List.forall_mem_cons.mpr ⟨List.mem_cons_of_mem _ (List.mem_append_left _ (List.mem_append_right _ (List.mem_of_getElem? (i := 4) rfl))), List.forall_mem_cons.mpr ⟨List.mem_cons_of_mem _ (List.mem_append_left _ (List.mem_append_left _ (List.mem_of_getElem? (i := 5) rfl))), (fun _ h => absurd h List.not_mem_nil)⟩⟩⟩⟩, List.forall_mem_cons.mpr ⟨List.mem_cons_of_mem _ (List.mem_append_left _ (List.mem_append_right _ (List.mem_of_getElem? (i := 5) rfl))), List.forall_mem_append.mpr ⟨List.forall_mem_cons.mpr ⟨List.mem_cons_of_mem _ (List.mem_append_left _ (List.mem_append_right _ (List.mem_of_getElem? (i := 1) rfl))), List.forall_mem_cons.mpr ⟨List.mem_cons_of_mem _ (List.mem_append_left _ (List.mem_append_right _ (List.mem_of_getElem? (i := 6) rfl))), (fun _ h => absurd h List.not_mem_nil)⟩⟩, (fun _ h => List.mem_cons_of_mem _ (List.mem_append_right _ h))⟩⟩⟩) (by decide +kernel)
set_option maxHeartbeats 4000000 in
set_option maxRecDepth 100000 in
theorem s_X12_lookAtKinds (l : Launch) (D : va_G) (sz : Nat) (o : Nat) (a : Nat → Nat) (t : Nat → ClassId) (i : Nat → Int32) (q : Int64) (c : Nat → Nat → Int32) (d : Nat → Nat → Int64) (hI : mInv i c) : Met l yX12_lookAtKinds wm_X12_lookAtKinds ({ frames := 2, cells := 0, slots := 0, locals := 48 }) (va_Pc [.ref o] (pB D sz (mW o a t i q c d) (mT t))) (va_Qv (fun (u : MS) => True ∧ mInv u.1 u.2.2.1 ∧ (∀ k, k ∉ ([] : List Nat) → u.1 k = i k) ∧ (∀ k, k ∉ ([45, 46, 47, 48, 49] : List Nat) → u.2.2.1 k = c k) ∧ (Cc (c 3) (c 6) (u.2.2.1 47) (u.2.2.1 48) (u.2.2.1 49) (i 5).toInt)) (oC D (va_A (mW o a t i q c d) sz) (fun u : MS => mW o a t u.1 u.2.1 u.2.2.1 u.2.2.2) (fun _ => [])) (va_A (mW o a t i q c d) sz)) 0 0 (va_A (mW o a t i q c d) sz) := by
  refine Met.ofW (cc := cX12_lookAtKinds) (maxL := 2) (ret := none) (by decide +kernel) rfl ?_
  intro p e s m args below meth cd s₁ B hml hv
  obtain ⟨rfl, hsz, hP, hK, hD0⟩ := hv
  have hx := B.exec
  have hb := B.bytes
  have hr := B.returns
  have hts := atoms_spec (ws := wm_X12_lookAtKinds) B.pre
  have hown : s.vm.findClass RX12 = some m.cls := findClass_of_methodNamed B.named
  have hlocks := B.notSynchronized
  subst hsz
  have hD := hD0.self (sz := s.heap.size)
  generalize hAe : va_A (mW o a t i q c d) s.heap.size = A at hD ⊢
  have hA : ∀ q : Nat, s.heap.size ≤ q → A q := fun q h => by rw [← hAe]; exact Or.inr h
  have hS : va_S A s.heap s.heap [] := va_S.rf
  have hfi : ∀ k, k ∉ ([] : List Nat) → i k = i k := fun _ _ => rfl
  have hfc : ∀ k, k ∉ ([] : List Nat) → c k = c k := fun _ _ => rfl
  have hl := lv_entry ([.ref o]) (n := 2) (Nat.le_of_ble_eq_true rfl)
  rw [lg_entry_eq]
  generalize (lg_sl ([.ref o]) ++ List.replicate (2 - (lg_sl ([.ref o])).length) Slot.unset).toArray = ls at hl ⊢
  have hl : lv_has ls 2 [(0, .ref o)] := hl
  refine lv_iconst (v := 0) hx hb dX12_lookAtKinds_0 (by decide +kernel) ?_
  refine lv_istore_n (lv' := [(1, .int 0), (0, .ref o)]) hx hb dX12_lookAtKinds_1 rfl hl (by decide +kernel) rfl (fun ls hl => ?_)
  have lp1 : ∀ (fu : Nat) (i1 : Nat → Int32) (q1 : Int64) (c1 : Nat → Nat → Int32) (d1 : Nat → Nat → Int64) (y1_1 : Int32), mInv i1 c1 → (∀ k, k ∉ ([] : List Nat) → i1 k = i k) → (∀ k, k ∉ ([45, 46, 47, 48, 49] : List Nat) → c1 k = c k) → (0 ≤ y1_1.toInt ∧ y1_1.toInt ≤ 30) → (Cc (c 3) (c 6) (c1 47) (c1 48) (c1 49) y1_1.toInt) → (30 - y1_1.toInt).toNat < fu → ∀ (H : Heap) (locs : List Loc) (ls : Array Slot), va_P D vwCl (mW o a t i1 q1 c1 d1) H → va_D A (mW o a t i1 q1 c1 d1) → va_S A s.heap H locs → lv_has ls 2 [(1, .int y1_1), (0, .ref o)] → W p l e (headSpec wm_X12_lookAtKinds ({ frames := 2, cells := 0, slots := 0, locals := 48 })).room s m ([.ref o] : List Value).toArray below meth cd H locs 0 0 (MQ below (va_Qv (fun (u : MS) => True ∧ mInv u.1 u.2.2.1 ∧ (∀ k, k ∉ ([] : List Nat) → u.1 k = i k) ∧ (∀ k, k ∉ ([45, 46, 47, 48, 49] : List Nat) → u.2.2.1 k = c k) ∧ (Cc (c 3) (c 6) (u.2.2.1 47) (u.2.2.1 48) (u.2.2.1 49) (i 5).toInt)) (oC D A (fun u : MS => mW o a t u.1 u.2.1 u.2.2.1 u.2.2.2) (fun _ => [])) A) ([.ref o] : List Value).toArray s 0 0 A) (F0 m 2 ls []) := by
    intro fu
    induction fu with
    | zero => intro i1 q1 c1 d1 y1_1 hI hfi hfc hy1_1 hz1_0 hm; exact absurd hm (Nat.not_lt_zero _)
    | succ fu ih =>
      intro i1 q1 c1 d1 y1_1 hI hfi hfc hy1_1 hz1_0 hm H locs ls hP hD hS hl
      have ih1 := ih
      refine lv_iload_n hx hb dX12_lookAtKinds_2 rfl (lv_at hl 0 rfl) ?_
      refine lv_aload_n hx hb dX12_lookAtKinds_3 rfl (lv_at hl 1 rfl) ?_
      refine mget_5 (v := (i1 5)) rfl hx hb hts (fun _ h => List.mem_cons_of_mem _ (List.mem_append_right _ h)) hown hK hP (hts (.fieldLink RX12 177 "TalePlayModel" "objects" "I") (List.mem_cons_of_mem _ (List.mem_append_left _ (List.mem_append_left _ (List.mem_of_getElem? (i := 0) rfl))))) dX12_lookAtKinds_4 ?_
      have rb5_i1 : 0 ≤ (i1 5).toInt ∧ (i1 5).toInt ≤ 30 := hI.1 5
      have re5_i1 : (i1 5).toInt = (i 5).toInt := congrArg Int32.toInt (hfi 5 (by decide +kernel))
      refine lv_icmp_ge (tgt := 103) hx hb dX12_lookAtKinds_7 (by decide +kernel) (fun c2 => ?_) (fun c2 => ?_)
      · have f2 := (ti_le (a := (i1 5).toInt) (b := y1_1.toInt) rfl rfl).mp c2
        exact rw_vret (i1, q1, c1, d1) hx hb hr hlocks hS (hK.sub (tys' := []) [] rfl) hP hD dX12_lookAtKinds_103 ⟨trivial, hI, fr_w hfi (by decide +kernel), fr_w hfc (by decide +kernel), (show Cc (c 3) (c 6) (c1 47) (c1 48) (c1 49) (i 5).toInt from by intro x a b; exact hz1_0 x a (by omega))⟩
      · have f2 := mt (ti_le (a := (i1 5).toInt) (b := y1_1.toInt) rfl rfl).mpr c2
        refine lv_aload_n hx hb dX12_lookAtKinds_10 rfl (lv_at hl 1 rfl) ?_
        refine mget_45 hx hb hts (fun _ h => List.mem_cons_of_mem _ (List.mem_append_right _ h)) hown hK hP (hts (.fieldLink RX12 92 "TalePlayModel" "lit" "[Z") (List.mem_cons_of_mem _ (List.mem_append_left _ (List.mem_append_left _ (List.mem_of_getElem? (i := 1) rfl))))) dX12_lookAtKinds_11 ?_
        refine lv_iload_n hx hb dX12_lookAtKinds_14 rfl (lv_at hl 0 rfl) ?_
        refine lv_aload_n hx hb dX12_lookAtKinds_15 rfl (lv_at hl 1 rfl) ?_
        refine lv_iload_n hx hb dX12_lookAtKinds_16 rfl (lv_at hl 0 rfl) ?_
        refine lv_iconst (v := 2) hx hb dX12_lookAtKinds_17 (by decide +kernel) ?_
        refine ro_calli (va_runV (As := [.int y1_1, .int 2]) (rest := [.int y1_1, .ref (a 45)]) ⟨hx, hb, hml, hown, hts⟩ (s_X12_saidFlag l D H.size o a t i1 q1 c1 d1 y1_1 2 hI (show 0 ≤ y1_1.toInt ∧ y1_1.toInt ≤ 29 from by have h91 : (2 : Int32).toInt = 2 := (by decide +kernel); omega) (show 0 ≤ 2 ∧ 2 ≤ 5 from by decide +kernel)) (cwV 2 hts gm_X12_lookAtKinds_X12_saidFlag rfl rfl rfl (by decide +kernel) ⟨Nat.le_of_ble_eq_true rfl, Nat.le_of_ble_eq_true rfl⟩) (pA_V hK hP (ci := 12) (q0 := 0) rfl rfl) rfl rfl hl.1 rfl (lv_room (Nat.le_of_ble_eq_true rfl)) dX12_lookAtKinds_18 ⟨Nat.le_of_ble_eq_true rfl, Nat.le_of_ble_eq_true rfl⟩) hS hA hP (fun r3 u3 H locs hw3 hP hS => ?_)
        have hw3 : (r3.toInt = -9 ∨ (0 ≤ r3.toInt ∧ r3.toInt ≤ 1)) := hw3
        refine lv_iconst (v := 1) hx hb dX12_lookAtKinds_21 (by decide +kernel) ?_
        have jn4 : ∀ (z4_0 : Int32), (z4_0.toInt = 0 ∨ z4_0.toInt = 1) → ∀ (H : Heap) (locs : List Loc) (ls : Array Slot), va_P D vwCl (mW o a t i1 q1 c1 d1) H → va_D A (mW o a t i1 q1 c1 d1) → va_S A s.heap H locs → lv_has ls 2 [(1, .int y1_1), (0, .ref o)] → W p l e (headSpec wm_X12_lookAtKinds ({ frames := 2, cells := 0, slots := 0, locals := 48 })).room s m ([.ref o] : List Value).toArray below meth cd H locs 0 0 (MQ below (va_Qv (fun (u : MS) => True ∧ mInv u.1 u.2.2.1 ∧ (∀ k, k ∉ ([] : List Nat) → u.1 k = i k) ∧ (∀ k, k ∉ ([45, 46, 47, 48, 49] : List Nat) → u.2.2.1 k = c k) ∧ (Cc (c 3) (c 6) (u.2.2.1 47) (u.2.2.1 48) (u.2.2.1 49) (i 5).toInt)) (oC D A (fun u : MS => mW o a t u.1 u.2.1 u.2.2.1 u.2.2.2) (fun _ => [])) A) ([.ref o] : List Value).toArray s 0 0 A) (F0 m 30 ls [.int z4_0, .int y1_1, .ref (a 45)]) := by
          intro z4_0 hs4_0 H locs ls hP hD hS hl
          refine mst_45 hx hb hK hP hD hS (vp_in_iff.mpr (by have h9 : y1_1.toInt = y1_1.toInt := rfl; omega)) (nb_z (show 0 ≤ (z4_0 : Int32).toInt ∧ (z4_0 : Int32).toInt ≤ 1 from by omega)) dX12_lookAtKinds_30 (fun H locs hP hD hS => ?_)
          have hI := mInv_c hI (k := 45) (j := (y1_1 : Int32).toNatClampNeg) (x := z4_0) (show 0 ≤ (z4_0 : Int32).toInt ∧ (z4_0 : Int32).toInt ≤ 1 from by omega)
          have hfc := fr_c hfc (k := 45) (j := (y1_1 : Int32).toNatClampNeg) (x := z4_0) (by decide +kernel)
          refine lv_aload_n hx hb dX12_lookAtKinds_31 rfl (lv_at hl 1 rfl) ?_
          refine mget_47 hx hb hts (fun _ h => List.mem_cons_of_mem _ (List.mem_append_right _ h)) hown hK hP (hts (.fieldLink RX12 98 "TalePlayModel" "isBox" "[Z") (List.mem_cons_of_mem _ (List.mem_append_left _ (List.mem_append_right _ (List.mem_of_getElem? (i := 8) rfl))))) dX12_lookAtKinds_32 ?_
          refine lv_iload_n hx hb dX12_lookAtKinds_35 rfl (lv_at hl 0 rfl) ?_
          refine lv_aload_n hx hb dX12_lookAtKinds_36 rfl (lv_at hl 1 rfl) ?_
          refine lv_iload_n hx hb dX12_lookAtKinds_37 rfl (lv_at hl 0 rfl) ?_
          refine lv_iconst (v := 3) hx hb dX12_lookAtKinds_38 (by decide +kernel) ?_
          refine ro_calli (va_runV (As := [.int y1_1, .int 3]) (rest := [.int y1_1, .ref (a 47)]) ⟨hx, hb, hml, hown, hts⟩ (s_X12_isOf l D H.size o a t i1 q1 (updA c1 45 (y1_1 : Int32).toNatClampNeg z4_0) d1 y1_1 3 hI (show 0 ≤ y1_1.toInt ∧ y1_1.toInt ≤ 29 from by have h91 : (3 : Int32).toInt = 3 := (by decide +kernel); omega) (show 0 ≤ 3 from by decide +kernel)) (cwV 2 hts gm_X12_lookAtKinds_X12_isOf rfl rfl rfl (by decide +kernel) ⟨Nat.le_of_ble_eq_true rfl, Nat.le_of_ble_eq_true rfl⟩) (pA_V hK hP (ci := 12) (q0 := 0) rfl rfl) rfl rfl hl.1 rfl (lv_room (Nat.le_of_ble_eq_true rfl)) dX12_lookAtKinds_39 ⟨Nat.le_of_ble_eq_true rfl, Nat.le_of_ble_eq_true rfl⟩) hS hA hP (fun r5 u5 H locs hw5 hP hS => ?_)
          have hw5 : ((0 ≤ r5.toInt ∧ r5.toInt ≤ 1) ∧ (Sm r5 (Kd ((updA c1 45 (y1_1 : Int32).toNatClampNeg z4_0) 3) ((updA c1 45 (y1_1 : Int32).toNatClampNeg z4_0) 6) y1_1.toInt 3))) := hw5
          obtain ⟨hw5, hr5_0⟩ := hw5
          have hr5_0 : Sm r5 (Kd (c 3) (c 6) y1_1.toInt 3) := by have h9 := hr5_0; rw [show (updA c1 45 (y1_1 : Int32).toNatClampNeg z4_0) 3 = c 3 from hfc 3 (by decide +kernel), show (updA c1 45 (y1_1 : Int32).toNatClampNeg z4_0) 6 = c 6 from hfc 6 (by decide +kernel)] at h9; exact h9
          refine mst_47 hx hb hK hP hD hS (vp_in_iff.mpr (by have h9 : y1_1.toInt = y1_1.toInt := rfl; omega)) (nb_z (show 0 ≤ (r5 : Int32).toInt ∧ (r5 : Int32).toInt ≤ 1 from by omega)) dX12_lookAtKinds_42 (fun H locs hP hD hS => ?_)
          have hI := mInv_c hI (k := 47) (j := (y1_1 : Int32).toNatClampNeg) (x := r5) (show 0 ≤ (r5 : Int32).toInt ∧ (r5 : Int32).toInt ≤ 1 from by omega)
          have hfc := fr_c hfc (k := 47) (j := (y1_1 : Int32).toNatClampNeg) (x := r5) (by decide +kernel)
          refine lv_aload_n hx hb dX12_lookAtKinds_43 rfl (lv_at hl 1 rfl) ?_
          refine mget_48 hx hb hts (fun _ h => List.mem_cons_of_mem _ (List.mem_append_right _ h)) hown hK hP (hts (.fieldLink RX12 101 "TalePlayModel" "isRoom" "[Z") (List.mem_cons_of_mem _ (List.mem_append_left _ (List.mem_append_right _ (List.mem_of_getElem? (i := 9) rfl))))) dX12_lookAtKinds_44 ?_
          refine lv_iload_n hx hb dX12_lookAtKinds_47 rfl (lv_at hl 0 rfl) ?_
          refine lv_aload_n hx hb dX12_lookAtKinds_48 rfl (lv_at hl 1 rfl) ?_
          refine lv_iload_n hx hb dX12_lookAtKinds_49 rfl (lv_at hl 0 rfl) ?_
          refine lv_iconst (v := 0) hx hb dX12_lookAtKinds_50 (by decide +kernel) ?_
          refine ro_calli (va_runV (As := [.int y1_1, .int 0]) (rest := [.int y1_1, .ref (a 48)]) ⟨hx, hb, hml, hown, hts⟩ (s_X12_isOf l D H.size o a t i1 q1 (updA (updA c1 45 (y1_1 : Int32).toNatClampNeg z4_0) 47 (y1_1 : Int32).toNatClampNeg r5) d1 y1_1 0 hI (show 0 ≤ y1_1.toInt ∧ y1_1.toInt ≤ 29 from by have h91 : (0 : Int32).toInt = 0 := (by decide +kernel); omega) (show 0 ≤ 0 from by decide +kernel)) (cwV 2 hts gm_X12_lookAtKinds_X12_isOf rfl rfl rfl (by decide +kernel) ⟨Nat.le_of_ble_eq_true rfl, Nat.le_of_ble_eq_true rfl⟩) (pA_V hK hP (ci := 12) (q0 := 0) rfl rfl) rfl rfl hl.1 rfl (lv_room (Nat.le_of_ble_eq_true rfl)) dX12_lookAtKinds_51 ⟨Nat.le_of_ble_eq_true rfl, Nat.le_of_ble_eq_true rfl⟩) hS hA hP (fun r6 u6 H locs hw6 hP hS => ?_)
          have hw6 : ((0 ≤ r6.toInt ∧ r6.toInt ≤ 1) ∧ (Sm r6 (Kd ((updA (updA c1 45 (y1_1 : Int32).toNatClampNeg z4_0) 47 (y1_1 : Int32).toNatClampNeg r5) 3) ((updA (updA c1 45 (y1_1 : Int32).toNatClampNeg z4_0) 47 (y1_1 : Int32).toNatClampNeg r5) 6) y1_1.toInt 0))) := hw6
          obtain ⟨hw6, hr6_0⟩ := hw6
          have hr6_0 : Sm r6 (Kd (c 3) (c 6) y1_1.toInt 0) := by have h9 := hr6_0; rw [show (updA (updA c1 45 (y1_1 : Int32).toNatClampNeg z4_0) 47 (y1_1 : Int32).toNatClampNeg r5) 3 = c 3 from hfc 3 (by decide +kernel), show (updA (updA c1 45 (y1_1 : Int32).toNatClampNeg z4_0) 47 (y1_1 : Int32).toNatClampNeg r5) 6 = c 6 from hfc 6 (by decide +kernel)] at h9; exact h9
          refine mst_48 hx hb hK hP hD hS (vp_in_iff.mpr (by have h9 : y1_1.toInt = y1_1.toInt := rfl; omega)) (nb_z (show 0 ≤ (r6 : Int32).toInt ∧ (r6 : Int32).toInt ≤ 1 from by omega)) dX12_lookAtKinds_54 (fun H locs hP hD hS => ?_)
          have hI := mInv_c hI (k := 48) (j := (y1_1 : Int32).toNatClampNeg) (x := r6) (show 0 ≤ (r6 : Int32).toInt ∧ (r6 : Int32).toInt ≤ 1 from by omega)
          have hfc := fr_c hfc (k := 48) (j := (y1_1 : Int32).toNatClampNeg) (x := r6) (by decide +kernel)
          refine lv_aload_n hx hb dX12_lookAtKinds_55 rfl (lv_at hl 1 rfl) ?_
          refine mget_49 hx hb hts (fun _ h => List.mem_cons_of_mem _ (List.mem_append_right _ h)) hown hK hP (hts (.fieldLink RX12 104 "TalePlayModel" "isDoor" "[Z") (List.mem_cons_of_mem _ (List.mem_append_left _ (List.mem_append_right _ (List.mem_of_getElem? (i := 10) rfl))))) dX12_lookAtKinds_56 ?_
          refine lv_iload_n hx hb dX12_lookAtKinds_59 rfl (lv_at hl 0 rfl) ?_
          refine lv_aload_n hx hb dX12_lookAtKinds_60 rfl (lv_at hl 1 rfl) ?_
          refine lv_iload_n hx hb dX12_lookAtKinds_61 rfl (lv_at hl 0 rfl) ?_
          refine lv_iconst (v := 2) hx hb dX12_lookAtKinds_62 (by decide +kernel) ?_
          refine ro_calli (va_runV (As := [.int y1_1, .int 2]) (rest := [.int y1_1, .ref (a 49)]) ⟨hx, hb, hml, hown, hts⟩ (s_X12_isOf l D H.size o a t i1 q1 (updA (updA (updA c1 45 (y1_1 : Int32).toNatClampNeg z4_0) 47 (y1_1 : Int32).toNatClampNeg r5) 48 (y1_1 : Int32).toNatClampNeg r6) d1 y1_1 2 hI (show 0 ≤ y1_1.toInt ∧ y1_1.toInt ≤ 29 from by have h91 : (2 : Int32).toInt = 2 := (by decide +kernel); omega) (show 0 ≤ 2 from by decide +kernel)) (cwV 2 hts gm_X12_lookAtKinds_X12_isOf rfl rfl rfl (by decide +kernel) ⟨Nat.le_of_ble_eq_true rfl, Nat.le_of_ble_eq_true rfl⟩) (pA_V hK hP (ci := 12) (q0 := 0) rfl rfl) rfl rfl hl.1 rfl (lv_room (Nat.le_of_ble_eq_true rfl)) dX12_lookAtKinds_63 ⟨Nat.le_of_ble_eq_true rfl, Nat.le_of_ble_eq_true rfl⟩) hS hA hP (fun r7 u7 H locs hw7 hP hS => ?_)
          have hw7 : ((0 ≤ r7.toInt ∧ r7.toInt ≤ 1) ∧ (Sm r7 (Kd ((updA (updA (updA c1 45 (y1_1 : Int32).toNatClampNeg z4_0) 47 (y1_1 : Int32).toNatClampNeg r5) 48 (y1_1 : Int32).toNatClampNeg r6) 3) ((updA (updA (updA c1 45 (y1_1 : Int32).toNatClampNeg z4_0) 47 (y1_1 : Int32).toNatClampNeg r5) 48 (y1_1 : Int32).toNatClampNeg r6) 6) y1_1.toInt 2))) := hw7
          obtain ⟨hw7, hr7_0⟩ := hw7
          have hr7_0 : Sm r7 (Kd (c 3) (c 6) y1_1.toInt 2) := by have h9 := hr7_0; rw [show (updA (updA (updA c1 45 (y1_1 : Int32).toNatClampNeg z4_0) 47 (y1_1 : Int32).toNatClampNeg r5) 48 (y1_1 : Int32).toNatClampNeg r6) 3 = c 3 from hfc 3 (by decide +kernel), show (updA (updA (updA c1 45 (y1_1 : Int32).toNatClampNeg z4_0) 47 (y1_1 : Int32).toNatClampNeg r5) 48 (y1_1 : Int32).toNatClampNeg r6) 6 = c 6 from hfc 6 (by decide +kernel)] at h9; exact h9
          refine mst_49 hx hb hK hP hD hS (vp_in_iff.mpr (by have h9 : y1_1.toInt = y1_1.toInt := rfl; omega)) (nb_z (show 0 ≤ (r7 : Int32).toInt ∧ (r7 : Int32).toInt ≤ 1 from by omega)) dX12_lookAtKinds_66 (fun H locs hP hD hS => ?_)
          have hI := mInv_c hI (k := 49) (j := (y1_1 : Int32).toNatClampNeg) (x := r7) (show 0 ≤ (r7 : Int32).toInt ∧ (r7 : Int32).toInt ≤ 1 from by omega)
          have hfc := fr_c hfc (k := 49) (j := (y1_1 : Int32).toNatClampNeg) (x := r7) (by decide +kernel)
          refine lv_aload_n hx hb dX12_lookAtKinds_67 rfl (lv_at hl 1 rfl) ?_
          refine mget_46 hx hb hts (fun _ h => List.mem_cons_of_mem _ (List.mem_append_right _ h)) hown hK hP (hts (.fieldLink RX12 95 "TalePlayModel" "glass" "[Z") (List.mem_cons_of_mem _ (List.mem_append_left _ (List.mem_append_right _ (List.mem_of_getElem? (i := 11) rfl))))) dX12_lookAtKinds_68 ?_
          refine lv_iload_n hx hb dX12_lookAtKinds_71 rfl (lv_at hl 0 rfl) ?_
          refine lv_aload_n hx hb dX12_lookAtKinds_72 rfl (lv_at hl 1 rfl) ?_
          refine mget_47 hx hb hts (fun _ h => List.mem_cons_of_mem _ (List.mem_append_right _ h)) hown hK hP (hts (.fieldLink RX12 98 "TalePlayModel" "isBox" "[Z") (List.mem_cons_of_mem _ (List.mem_append_left _ (List.mem_append_right _ (List.mem_of_getElem? (i := 8) rfl))))) dX12_lookAtKinds_73 ?_
          refine lv_iload_n hx hb dX12_lookAtKinds_76 rfl (lv_at hl 0 rfl) ?_
          refine mld_47 hx hb hK hP (vp_in_iff.mpr (by have h9 : y1_1.toInt = y1_1.toInt := rfl; omega)) dX12_lookAtKinds_77 (fun x8 ex8 => ?_)
          have rx8 : 0 ≤ x8.toInt ∧ x8.toInt ≤ 1 := by rw [ex8]; exact hI.2 47 _
          have jn9 : ∀ (z9_0 : Int32), (z9_0.toInt = 0 ∨ z9_0.toInt = 1) → ∀ (H : Heap) (locs : List Loc) (ls : Array Slot), va_P D vwCl (mW o a t i1 q1 (updA (updA (updA (updA c1 45 (y1_1 : Int32).toNatClampNeg z4_0) 47 (y1_1 : Int32).toNatClampNeg r5) 48 (y1_1 : Int32).toNatClampNeg r6) 49 (y1_1 : Int32).toNatClampNeg r7) d1) H → va_D A (mW o a t i1 q1 (updA (updA (updA (updA c1 45 (y1_1 : Int32).toNatClampNeg z4_0) 47 (y1_1 : Int32).toNatClampNeg r5) 48 (y1_1 : Int32).toNatClampNeg r6) 49 (y1_1 : Int32).toNatClampNeg r7) d1) → va_S A s.heap H locs → lv_has ls 2 [(1, .int y1_1), (0, .ref o)] → W p l e (headSpec wm_X12_lookAtKinds ({ frames := 2, cells := 0, slots := 0, locals := 48 })).room s m ([.ref o] : List Value).toArray below meth cd H locs 0 0 (MQ below (va_Qv (fun (u : MS) => True ∧ mInv u.1 u.2.2.1 ∧ (∀ k, k ∉ ([] : List Nat) → u.1 k = i k) ∧ (∀ k, k ∉ ([45, 46, 47, 48, 49] : List Nat) → u.2.2.1 k = c k) ∧ (Cc (c 3) (c 6) (u.2.2.1 47) (u.2.2.1 48) (u.2.2.1 49) (i 5).toInt)) (oC D A (fun u : MS => mW o a t u.1 u.2.1 u.2.2.1 u.2.2.2) (fun _ => [])) A) ([.ref o] : List Value).toArray s 0 0 A) (F0 m 96 ls [.int z9_0, .int y1_1, .ref (a 46)]) := by
            intro z9_0 hs9_0 H locs ls hP hD hS hl
            refine mst_46 hx hb hK hP hD hS (vp_in_iff.mpr (by have h9 : y1_1.toInt = y1_1.toInt := rfl; omega)) (nb_z (show 0 ≤ (z9_0 : Int32).toInt ∧ (z9_0 : Int32).toInt ≤ 1 from by omega)) dX12_lookAtKinds_96 (fun H locs hP hD hS => ?_)
            have hI := mInv_c hI (k := 46) (j := (y1_1 : Int32).toNatClampNeg) (x := z9_0) (show 0 ≤ (z9_0 : Int32).toInt ∧ (z9_0 : Int32).toInt ≤ 1 from by omega)
            have hfc := fr_c hfc (k := 46) (j := (y1_1 : Int32).toNatClampNeg) (x := z9_0) (by decide +kernel)
            obtain ⟨x10, ex10⟩ : ∃ y : Int32, y = y1_1 + 1 := ⟨_, rfl⟩
            have tx10 := ti_add (a := y1_1.toInt) (b := 1) ex10 rfl (by decide +kernel) (by omega) (by omega)
            refine lv_iinc (v := x10) (lv' := [(1, .int x10), (0, .ref o)]) hx hb dX12_lookAtKinds_97 hl (k := 0) rfl (by rw [ex10]; rfl) (by decide +kernel) rfl (fun ls hl => ?_)
            refine lv_goto (tgt := 2) hx hb dX12_lookAtKinds_100 (by decide +kernel) ?_
            exact ih1 i1 q1 (updA (updA (updA (updA (updA c1 45 (y1_1 : Int32).toNatClampNeg z4_0) 47 (y1_1 : Int32).toNatClampNeg r5) 48 (y1_1 : Int32).toNatClampNeg r6) 49 (y1_1 : Int32).toNatClampNeg r7) 46 (y1_1 : Int32).toNatClampNeg z9_0) d1 x10 hI (fr_w hfi (by decide +kernel)) (fr_w hfc (by decide +kernel)) (show 0 ≤ x10.toInt ∧ x10.toInt ≤ 30 from by have h50 : x10.toInt = (y1_1.toInt + 1) := tx10; omega) (show Cc (c 3) (c 6) ((updA (updA (updA (updA (updA c1 45 (y1_1 : Int32).toNatClampNeg z4_0) 47 (y1_1 : Int32).toNatClampNeg r5) 48 (y1_1 : Int32).toNatClampNeg r6) 49 (y1_1 : Int32).toNatClampNeg r7) 46 (y1_1 : Int32).toNatClampNeg z9_0) 47) ((updA (updA (updA (updA (updA c1 45 (y1_1 : Int32).toNatClampNeg z4_0) 47 (y1_1 : Int32).toNatClampNeg r5) 48 (y1_1 : Int32).toNatClampNeg r6) 49 (y1_1 : Int32).toNatClampNeg r7) 46 (y1_1 : Int32).toNatClampNeg z9_0) 48) ((updA (updA (updA (updA (updA c1 45 (y1_1 : Int32).toNatClampNeg z4_0) 47 (y1_1 : Int32).toNatClampNeg r5) 48 (y1_1 : Int32).toNatClampNeg r6) 49 (y1_1 : Int32).toNatClampNeg r7) 46 (y1_1 : Int32).toNatClampNeg z9_0) 49) x10.toInt from Cc_a hz1_0 (by omega) tx10 hr5_0 hr6_0 hr7_0) (by have h50 : x10.toInt = (y1_1.toInt + 1) := tx10; omega) _ _ _ hP hD hS (lv_sub hl [0, 1] rfl)
          have jn11 : ∀ (H : Heap) (locs : List Loc) (ls : Array Slot), va_P D vwCl (mW o a t i1 q1 (updA (updA (updA (updA c1 45 (y1_1 : Int32).toNatClampNeg z4_0) 47 (y1_1 : Int32).toNatClampNeg r5) 48 (y1_1 : Int32).toNatClampNeg r6) 49 (y1_1 : Int32).toNatClampNeg r7) d1) H → va_D A (mW o a t i1 q1 (updA (updA (updA (updA c1 45 (y1_1 : Int32).toNatClampNeg z4_0) 47 (y1_1 : Int32).toNatClampNeg r5) 48 (y1_1 : Int32).toNatClampNeg r6) 49 (y1_1 : Int32).toNatClampNeg r7) d1) → va_S A s.heap H locs → lv_has ls 2 [(1, .int y1_1), (0, .ref o)] → W p l e (headSpec wm_X12_lookAtKinds ({ frames := 2, cells := 0, slots := 0, locals := 48 })).room s m ([.ref o] : List Value).toArray below meth cd H locs 0 0 (MQ below (va_Qv (fun (u : MS) => True ∧ mInv u.1 u.2.2.1 ∧ (∀ k, k ∉ ([] : List Nat) → u.1 k = i k) ∧ (∀ k, k ∉ ([45, 46, 47, 48, 49] : List Nat) → u.2.2.1 k = c k) ∧ (Cc (c 3) (c 6) (u.2.2.1 47) (u.2.2.1 48) (u.2.2.1 49) (i 5).toInt)) (oC D A (fun u : MS => mW o a t u.1 u.2.1 u.2.2.1 u.2.2.2) (fun _ => [])) A) ([.ref o] : List Value).toArray s 0 0 A) (F0 m 95 ls [.int y1_1, .ref (a 46)]) := by
            intro H locs ls hP hD hS hl
            refine lv_iconst (v := 0) hx hb dX12_lookAtKinds_95 (by decide +kernel) ?_
            exact jn9  (0 : Int32) (show (0 : Int32).toInt = 0 ∨ (0 : Int32).toInt = 1 from by decide +kernel) _ _ _ hP hD hS (lv_sub hl [0, 1] rfl)
          refine lv_if_eq (tgt := 95) hx hb dX12_lookAtKinds_78 (by decide +kernel) (fun c12 => ?_) (fun c12 => ?_)
          · have f12 := (ti_eq (a := x8.toInt) (b := 0) rfl (by decide +kernel)).mp c12
            exact jn11    _ _ _ hP hD hS (lv_sub hl [0, 1] rfl)
          · have f12 := mt (ti_eq (a := x8.toInt) (b := 0) rfl (by decide +kernel)).mpr c12
            refine lv_aload_n hx hb dX12_lookAtKinds_81 rfl (lv_at hl 1 rfl) ?_
            refine lv_iload_n hx hb dX12_lookAtKinds_82 rfl (lv_at hl 0 rfl) ?_
            refine lv_iconst (v := 5) hx hb dX12_lookAtKinds_83 (by decide +kernel) ?_
            refine ro_calli (va_runV (As := [.int y1_1, .int 5]) (rest := [.int y1_1, .ref (a 46)]) ⟨hx, hb, hml, hown, hts⟩ (s_X12_saidFlag l D H.size o a t i1 q1 (updA (updA (updA (updA c1 45 (y1_1 : Int32).toNatClampNeg z4_0) 47 (y1_1 : Int32).toNatClampNeg r5) 48 (y1_1 : Int32).toNatClampNeg r6) 49 (y1_1 : Int32).toNatClampNeg r7) d1 y1_1 5 hI (show 0 ≤ y1_1.toInt ∧ y1_1.toInt ≤ 29 from by have h91 : (5 : Int32).toInt = 5 := (by decide +kernel); omega) (show 0 ≤ 5 ∧ 5 ≤ 5 from by decide +kernel)) (cwV 2 hts gm_X12_lookAtKinds_X12_saidFlag rfl rfl rfl (by decide +kernel) ⟨Nat.le_of_ble_eq_true rfl, Nat.le_of_ble_eq_true rfl⟩) (pA_V hK hP (ci := 12) (q0 := 0) rfl rfl) rfl rfl hl.1 rfl (lv_room (Nat.le_of_ble_eq_true rfl)) dX12_lookAtKinds_84 ⟨Nat.le_of_ble_eq_true rfl, Nat.le_of_ble_eq_true rfl⟩) hS hA hP (fun r13 u13 H locs hw13 hP hS => ?_)
            have hw13 : (r13.toInt = -9 ∨ (0 ≤ r13.toInt ∧ r13.toInt ≤ 1)) := hw13
            refine lv_iconst (v := 1) hx hb dX12_lookAtKinds_87 (by decide +kernel) ?_
            refine lv_icmp_ne (tgt := 95) hx hb dX12_lookAtKinds_88 (by decide +kernel) (fun c14 => ?_) (fun c14 => ?_)
            · have f14 := mt (ti_eq (a := r13.toInt) (b := 1) rfl (by decide +kernel)).mpr c14
              exact jn11    _ _ _ hP hD hS (lv_sub hl [0, 1] rfl)
            · have f14 := (ti_eq (a := r13.toInt) (b := 1) rfl (by decide +kernel)).mp c14
              refine lv_iconst (v := 1) hx hb dX12_lookAtKinds_91 (by decide +kernel) ?_
              refine lv_goto (tgt := 96) hx hb dX12_lookAtKinds_92 (by decide +kernel) ?_
              exact jn9  (1 : Int32) (show (1 : Int32).toInt = 0 ∨ (1 : Int32).toInt = 1 from by decide +kernel) _ _ _ hP hD hS (lv_sub hl [0, 1] rfl)
        refine lv_icmp_ne (tgt := 29) hx hb dX12_lookAtKinds_22 (by decide +kernel) (fun c15 => ?_) (fun c15 => ?_)
        · have f15 := mt (ti_eq (a := r3.toInt) (b := 1) rfl (by decide +kernel)).mpr c15
          refine lv_iconst (v := 0) hx hb dX12_lookAtKinds_29 (by decide +kernel) ?_
          exact jn4  (0 : Int32) (show (0 : Int32).toInt = 0 ∨ (0 : Int32).toInt = 1 from by decide +kernel) _ _ _ hP hD hS (lv_sub hl [0, 1] rfl)
        · have f15 := (ti_eq (a := r3.toInt) (b := 1) rfl (by decide +kernel)).mp c15
          refine lv_iconst (v := 1) hx hb dX12_lookAtKinds_25 (by decide +kernel) ?_
          refine lv_goto (tgt := 30) hx hb dX12_lookAtKinds_26 (by decide +kernel) ?_
          exact jn4  (1 : Int32) (show (1 : Int32).toInt = 0 ∨ (1 : Int32).toInt = 1 from by decide +kernel) _ _ _ hP hD hS (lv_sub hl [0, 1] rfl)
  exact lp1 _ i q c d (0 : Int32) hI (fr_w hfi (by decide +kernel)) (fr_w hfc (by decide +kernel)) (show 0 ≤ (0 : Int32).toInt ∧ (0 : Int32).toInt ≤ 30 from by decide +kernel) (show Cc (c 3) (c 6) (c 47) (c 48) (c 49) (0 : Int32).toInt from Cc_0 (by decide +kernel)) (Nat.lt_succ_self _) _ _ _ hP hD hS (lv_sub hl [0, 1] rfl)

def wm_X12_isUpFrom : List Cond := .code yX12_isUpFrom cX12_isUpFrom 4 (some .boolean) :: (([.fieldLink RX12 50 "TalePlayModel" "nForm" "[I", .fieldLink RX12 53 "TalePlayModel" "nAt" "[I"] : List Cond) ++ wsX120)
set_option maxHeartbeats 4000000 in
set_option maxRecDepth 100000 in
theorem s_X12_isUpFrom (l : Launch) (D : va_G) (sz : Nat) (o : Nat) (a : Nat → Nat) (t : Nat → ClassId) (i : Nat → Int32) (q : Int64) (c : Nat → Nat → Int32) (d : Nat → Nat → Int64) (w1 : Int32) (w2 : Int32) (hI : mInv i c) (hw1 : 0 ≤ w1.toInt ∧ w1.toInt < (i 5).toInt) (hw2 : 0 ≤ w2.toInt ∧ w2.toInt < (i 5).toInt) (hs_T : TI (i 5).toInt (fun z => Kd (c 3) (c 6) z 0) (i 22).toInt (c 23) (c 24)) : Met l yX12_isUpFrom wm_X12_isUpFrom ({ frames := 0, cells := 0, slots := 0, locals := 0 }) (va_Pc [.ref o, .int w1, .int w2] (pA D sz (mW o a t i q c d) (mT t))) (va_Qi (fun (r : Int32) (_ : Unit) => ((0 ≤ r.toInt ∧ r.toInt ≤ 1) ∧ (Im (r.toInt = 0) (¬ Ch (nF (i 5).toInt (c 23) (c 24)) (nF (i 5).toInt (c 23) (c 24) w2.toInt) w1.toInt)))) oA (ro sz)) 0 0 (ro sz) := by
  refine Met.ofW (cc := cX12_isUpFrom) (maxL := 4) (ret := (some .boolean)) (by decide +kernel) rfl ?_
  intro p e s m args below meth cd s₁ B hml hv
  obtain ⟨rfl, hsz, hP, hK⟩ := hv
  have hx := B.exec
  have hb := B.bytes
  have hr := B.returns
  have hts := atoms_spec (ws := wm_X12_isUpFrom) B.pre
  have hown : s.vm.findClass RX12 = some m.cls := findClass_of_methodNamed B.named
  have hlocks := B.notSynchronized
  subst hsz
  have hA : ∀ q : Nat, s.heap.size ≤ q → ro s.heap.size q := fun _ h => h
  have hS : va_S (ro s.heap.size) s.heap s.heap [] := va_S.rf
  have hl := lv_entry ([.ref o, .int w1, .int w2]) (n := 4) (Nat.le_of_ble_eq_true rfl)
  rw [lg_entry_eq]
  generalize (lg_sl ([.ref o, .int w1, .int w2]) ++ List.replicate (4 - (lg_sl ([.ref o, .int w1, .int w2])).length) Slot.unset).toArray = ls at hl ⊢
  have hl : lv_has ls 4 [(0, .ref o), (1, .int w1), (2, .int w2)] := hl
  have rb5_i : 0 ≤ (i 5).toInt ∧ (i 5).toInt ≤ 30 := hI.1 5
  have rb22_i : (i 22).toInt = -9 ∨ (0 ≤ (i 22).toInt ∧ (i 22).toInt ≤ 29) := hI.1 22
  have hTt := hs_T
  obtain ⟨⟨hp0, hp1, hp2⟩, hT2, hT3, ⟨rk, hrk⟩, rr, hq0, hq1, hq2, hq3⟩ := hTt
  have hsp : Sp (nF (i 5).toInt (c 23) (c 24)) := nF_Sp (by omega) hT2
  have hpl := TI_p hs_T
  have hpa : 0 ≤ (c 24 (i 22).toNatClampNeg).toInt ∧ (c 24 (i 22).toNatClampNeg).toInt < (i 5).toInt := hT2 _ hp0 hp1 hpl
  refine lv_iload_n hx hb dX12_isUpFrom_0 rfl (lv_at hl 2 rfl) ?_
  refine lv_istore_n (lv' := [(3, .int w2), (0, .ref o), (1, .int w1), (2, .int w2)]) hx hb dX12_isUpFrom_1 rfl hl (by decide +kernel) rfl (fun ls hl => ?_)
  have lp1 : ∀ (fu : Nat) (y1_3 : Int32), (0 ≤ y1_3.toInt ∧ y1_3.toInt ≤ 29) → (y1_3.toInt < (i 5).toInt) → (Ch (nF (i 5).toInt (c 23) (c 24)) (nF (i 5).toInt (c 23) (c 24) w2.toInt) w1.toInt ↔ Ch (nF (i 5).toInt (c 23) (c 24)) (nF (i 5).toInt (c 23) (c 24) y1_3.toInt) w1.toInt) → rk y1_3.toInt < fu → ∀ (H : Heap) (locs : List Loc) (ls : Array Slot), va_P D vwCl (mW o a t i q c d) H → va_S (ro s.heap.size) s.heap H locs → lv_has ls 4 [(3, .int y1_3), (0, .ref o), (1, .int w1), (2, .int w2)] → W p l e (headSpec wm_X12_isUpFrom ({ frames := 0, cells := 0, slots := 0, locals := 0 })).room s m ([.ref o, .int w1, .int w2] : List Value).toArray below meth cd H locs 0 0 (MQ below (va_Qi (fun (r : Int32) (_ : Unit) => ((0 ≤ r.toInt ∧ r.toInt ≤ 1) ∧ (Im (r.toInt = 0) (¬ Ch (nF (i 5).toInt (c 23) (c 24)) (nF (i 5).toInt (c 23) (c 24) w2.toInt) w1.toInt)))) oA (ro s.heap.size)) ([.ref o, .int w1, .int w2] : List Value).toArray s 0 0 (ro s.heap.size)) (F0 m 2 ls []) := by
    intro fu
    induction fu with
    | zero => intro y1_3 hy1_3 hz1_0 hz1_1 hm; exact absurd hm (Nat.not_lt_zero _)
    | succ fu ih =>
      intro y1_3 hy1_3 hz1_0 hz1_1 hm H locs ls hP hS hl
      have ih1 := ih
      refine lv_aload_n hx hb dX12_isUpFrom_2 rfl (lv_at hl 1 rfl) ?_
      refine mget_23 hx hb hts (fun _ h => List.mem_cons_of_mem _ (List.mem_append_right _ h)) hown hK hP (hts (.fieldLink RX12 50 "TalePlayModel" "nForm" "[I") (List.mem_cons_of_mem _ (List.mem_append_left _ (List.mem_of_getElem? (i := 0) rfl)))) dX12_isUpFrom_3 ?_
      refine lv_iload_n hx hb dX12_isUpFrom_6 rfl (lv_at hl 0 rfl) ?_
      refine mld_23 hx hb hK hP (vp_in_iff.mpr (by have h9 : y1_3.toInt = y1_3.toInt := rfl; omega)) dX12_isUpFrom_7 (fun x2 ex2 => ?_)
      have rx2 : x2.toInt = -9 ∨ (0 ≤ x2.toInt ∧ x2.toInt ≤ 4) := by rw [ex2]; exact hI.2 23 _
      refine lv_bipush (v := (-9)) hx hb dX12_isUpFrom_8 (by decide +kernel) ?_
      refine lv_icmp_eq (tgt := 27) hx hb dX12_isUpFrom_10 (by decide +kernel) (fun c3 => ?_) (fun c3 => ?_)
      · have f3 := (ti_eq (a := x2.toInt) (b := (-9)) rfl (by decide +kernel)).mp c3
        refine lv_iconst (v := 0) hx hb dX12_isUpFrom_27 (by decide +kernel) ?_
        exact ro_zret hx hb hr hlocks hS rfl dX12_isUpFrom_28 ⟨(show 0 ≤ (0 : Int32).toInt ∧ (0 : Int32).toInt ≤ 1 from by decide +kernel), (show Im ((0 : Int32).toInt = 0) (¬ Ch (nF (i 5).toInt (c 23) (c 24)) (nF (i 5).toInt (c 23) (c 24) w2.toInt) w1.toInt) from fun _ h8 => by have h7 := hz1_1.mp h8; rw [nF_no ex2 (by omega)] at h7; have h6 := Ch_nd hsp.1 h7; omega)⟩
      · have f3 := mt (ti_eq (a := x2.toInt) (b := (-9)) rfl (by decide +kernel)).mpr c3
        refine lv_aload_n hx hb dX12_isUpFrom_13 rfl (lv_at hl 1 rfl) ?_
        refine mget_24 hx hb hts (fun _ h => List.mem_cons_of_mem _ (List.mem_append_right _ h)) hown hK hP (hts (.fieldLink RX12 53 "TalePlayModel" "nAt" "[I") (List.mem_cons_of_mem _ (List.mem_append_left _ (List.mem_of_getElem? (i := 1) rfl)))) dX12_isUpFrom_14 ?_
        refine lv_iload_n hx hb dX12_isUpFrom_17 rfl (lv_at hl 0 rfl) ?_
        refine mld_24 hx hb hK hP (vp_in_iff.mpr (by have h9 : y1_3.toInt = y1_3.toInt := rfl; omega)) dX12_isUpFrom_18 (fun x4 ex4 => ?_)
        have rx4 : x4.toInt = -9 ∨ (0 ≤ x4.toInt ∧ x4.toInt ≤ 29) := by rw [ex4]; exact hI.2 24 _
        obtain ⟨hn, hax, hbx⟩ := T_st hT2 (y := y1_3) (by omega) ex2 (by omega) ex4
        have hk := hrk.2 y1_3.toInt (by omega) (by omega) (by rw [hn]; omega)
        rw [hn] at hk
        refine lv_istore_n (lv' := [(3, .int x4), (0, .ref o), (1, .int w1), (2, .int w2)]) hx hb dX12_isUpFrom_19 rfl hl (by decide +kernel) rfl (fun ls hl => ?_)
        refine lv_iload_n hx hb dX12_isUpFrom_20 rfl (lv_at hl 0 rfl) ?_
        refine lv_iload_n hx hb dX12_isUpFrom_21 rfl (lv_at hl 2 rfl) ?_
        refine lv_icmp_ne (tgt := 2) hx hb dX12_isUpFrom_22 (by decide +kernel) (fun c5 => ?_) (fun c5 => ?_)
        · have f5 := mt (ti_eq (a := x4.toInt) (b := w1.toInt) rfl rfl).mpr c5
          exact ih1 x4 (show 0 ≤ x4.toInt ∧ x4.toInt ≤ 29 from by omega) (show x4.toInt < (i 5).toInt from by omega) (show Ch (nF (i 5).toInt (c 23) (c 24)) (nF (i 5).toInt (c 23) (c 24) w2.toInt) w1.toInt ↔ Ch (nF (i 5).toInt (c 23) (c 24)) (nF (i 5).toInt (c 23) (c 24) x4.toInt) w1.toInt from hz1_1.trans (by rw [hn]; exact Ch_nx (by omega))) (by omega) _ _ _ hP hS (lv_sub hl [0, 1, 2, 3] rfl)
        · have f5 := (ti_eq (a := x4.toInt) (b := w1.toInt) rfl rfl).mp c5
          refine lv_iconst (v := 1) hx hb dX12_isUpFrom_25 (by decide +kernel) ?_
          exact ro_zret hx hb hr hlocks hS rfl dX12_isUpFrom_26 ⟨(show 0 ≤ (1 : Int32).toInt ∧ (1 : Int32).toInt ≤ 1 from by decide +kernel), (show Im ((1 : Int32).toInt = 0) (¬ Ch (nF (i 5).toInt (c 23) (c 24)) (nF (i 5).toInt (c 23) (c 24) w2.toInt) w1.toInt) from fun h9 => absurd h9 (by decide +kernel))⟩
  exact lp1 _ w2 (show 0 ≤ w2.toInt ∧ w2.toInt ≤ 29 from by omega) (show w2.toInt < (i 5).toInt from by omega) (show Ch (nF (i 5).toInt (c 23) (c 24)) (nF (i 5).toInt (c 23) (c 24) w2.toInt) w1.toInt ↔ Ch (nF (i 5).toInt (c 23) (c 24)) (nF (i 5).toInt (c 23) (c 24) w2.toInt) w1.toInt from Iff.rfl) (Nat.lt_succ_self _) _ _ _ hP hS (lv_sub hl [0, 1, 2, 3] rfl)

def wm_X12_roomOf : List Cond := .code yX12_roomOf cX12_roomOf 3 (some .int) :: (([.methodLink RX12 184 yX12_isOf, .instanceMethod yX12_isOf, .selects RX12 yX12_isOf yX12_isOf, .initialized RX12, .code yX12_isOf cX12_isOf 4 (some .boolean), .fieldLink RX12 19 "TalePlayModel" "kindOf" "[I", .fieldLink RX12 13 "TalePlayModel" "parentOf" "[I", .fieldLink RX12 50 "TalePlayModel" "nForm" "[I", .fieldLink RX12 53 "TalePlayModel" "nAt" "[I"] : List Cond) ++ wsX120)
set_option maxRecDepth 20000 in
theorem gm_X12_roomOf_X12_isOf : GoodIn wm_X12_roomOf (wsV RX12 184 RX12 yX12_isOf wm_X12_isOf) := goodIn_w (List.forall_mem_append.mpr ⟨List.forall_mem_cons.mpr ⟨List.mem_cons_of_mem _ (List.mem_append_left _ (List.mem_of_getElem? (i := 0) rfl)), List.forall_mem_cons.mpr ⟨List.mem_cons_of_mem _ (List.mem_append_left _ (List.mem_of_getElem? (i := 1) rfl)), List.forall_mem_cons.mpr ⟨List.mem_cons_of_mem _ (List.mem_append_left _ (List.mem_of_getElem? (i := 2) rfl)), List.forall_mem_cons.mpr ⟨List.mem_cons_of_mem _ (List.mem_append_left _ (List.mem_of_getElem? (i := 3) rfl)), (fun _ h => absurd h List.not_mem_nil)⟩⟩⟩⟩, List.forall_mem_cons.mpr ⟨List.mem_cons_of_mem _ (List.mem_append_left _ (List.mem_of_getElem? (i := 4) rfl)), List.forall_mem_append.mpr ⟨List.forall_mem_cons.mpr ⟨List.mem_cons_of_mem _ (List.mem_append_left _ (List.mem_of_getElem? (i := 5) rfl)), List.forall_mem_cons.mpr ⟨List.mem_cons_of_mem _ (List.mem_append_left _ (List.mem_of_getElem? (i := 6) rfl)), (fun _ h => absurd h List.not_mem_nil)⟩⟩, (fun _ h => List.mem_cons_of_mem _ (List.mem_append_right _ h))⟩⟩⟩) (by decide +kernel)
set_option maxHeartbeats 4000000 in
set_option maxRecDepth 100000 in
theorem s_X12_roomOf (l : Launch) (D : va_G) (sz : Nat) (o : Nat) (a : Nat → Nat) (t : Nat → ClassId) (i : Nat → Int32) (q : Int64) (c : Nat → Nat → Int32) (d : Nat → Nat → Int64) (w : Int32) (hI : mInv i c) (hw : 0 ≤ w.toInt ∧ w.toInt < (i 5).toInt) (hs_T : TI (i 5).toInt (fun z => Kd (c 3) (c 6) z 0) (i 22).toInt (c 23) (c 24)) : Met l yX12_roomOf wm_X12_roomOf ({ frames := 1, cells := 0, slots := 0, locals := 23 }) (va_Pc [.ref o, .int w] (pA D sz (mW o a t i q c d) (mT t))) (va_Qi (fun (r : Int32) (_ : Unit) => (r.toInt = -9 ∨ (0 ≤ r.toInt ∧ r.toInt ≤ 29))) oA (ro sz)) 0 0 (ro sz) := by
  refine Met.ofW (cc := cX12_roomOf) (maxL := 3) (ret := (some .int)) (by decide +kernel) rfl ?_
  intro p e s m args below meth cd s₁ B hml hv
  obtain ⟨rfl, hsz, hP, hK⟩ := hv
  have hx := B.exec
  have hb := B.bytes
  have hr := B.returns
  have hts := atoms_spec (ws := wm_X12_roomOf) B.pre
  have hown : s.vm.findClass RX12 = some m.cls := findClass_of_methodNamed B.named
  have hlocks := B.notSynchronized
  subst hsz
  have hA : ∀ q : Nat, s.heap.size ≤ q → ro s.heap.size q := fun _ h => h
  have hS : va_S (ro s.heap.size) s.heap s.heap [] := va_S.rf
  have hl := lv_entry ([.ref o, .int w]) (n := 3) (Nat.le_of_ble_eq_true rfl)
  rw [lg_entry_eq]
  generalize (lg_sl ([.ref o, .int w]) ++ List.replicate (3 - (lg_sl ([.ref o, .int w])).length) Slot.unset).toArray = ls at hl ⊢
  have hl : lv_has ls 3 [(0, .ref o), (1, .int w)] := hl
  have rb5_i : 0 ≤ (i 5).toInt ∧ (i 5).toInt ≤ 30 := hI.1 5
  have rb22_i : (i 22).toInt = -9 ∨ (0 ≤ (i 22).toInt ∧ (i 22).toInt ≤ 29) := hI.1 22
  have hTt := hs_T
  obtain ⟨⟨hp0, hp1, hp2⟩, hT2, hT3, ⟨rk, hrk⟩, rr, hq0, hq1, hq2, hq3⟩ := hTt
  have hsp : Sp (nF (i 5).toInt (c 23) (c 24)) := nF_Sp (by omega) hT2
  have hpl := TI_p hs_T
  have hpa : 0 ≤ (c 24 (i 22).toNatClampNeg).toInt ∧ (c 24 (i 22).toNatClampNeg).toInt < (i 5).toInt := hT2 _ hp0 hp1 hpl
  refine lv_iload_n hx hb dX12_roomOf_0 rfl (lv_at hl 1 rfl) ?_
  refine lv_istore_n (lv' := [(2, .int w), (0, .ref o), (1, .int w)]) hx hb dX12_roomOf_1 rfl hl (by decide +kernel) rfl (fun ls hl => ?_)
  have lp1 : ∀ (fu : Nat) (y1_2 : Int32), (0 ≤ y1_2.toInt ∧ y1_2.toInt ≤ 29) → (y1_2.toInt < (i 5).toInt) → rk y1_2.toInt < fu → ∀ (H : Heap) (locs : List Loc) (ls : Array Slot), va_P D vwCl (mW o a t i q c d) H → va_S (ro s.heap.size) s.heap H locs → lv_has ls 3 [(2, .int y1_2), (0, .ref o), (1, .int w)] → W p l e (headSpec wm_X12_roomOf ({ frames := 1, cells := 0, slots := 0, locals := 23 })).room s m ([.ref o, .int w] : List Value).toArray below meth cd H locs 0 0 (MQ below (va_Qi (fun (r : Int32) (_ : Unit) => (r.toInt = -9 ∨ (0 ≤ r.toInt ∧ r.toInt ≤ 29))) oA (ro s.heap.size)) ([.ref o, .int w] : List Value).toArray s 0 0 (ro s.heap.size)) (F0 m 2 ls []) := by
    intro fu
    induction fu with
    | zero => intro y1_2 hy1_2 hz1_0 hm; exact absurd hm (Nat.not_lt_zero _)
    | succ fu ih =>
      intro y1_2 hy1_2 hz1_0 hm H locs ls hP hS hl
      have ih1 := ih
      refine lv_aload_n hx hb dX12_roomOf_2 rfl (lv_at hl 1 rfl) ?_
      refine lv_iload_n hx hb dX12_roomOf_3 rfl (lv_at hl 0 rfl) ?_
      refine lv_iconst (v := 0) hx hb dX12_roomOf_4 (by decide +kernel) ?_
      refine ro_calli (va_runV (As := [.int y1_2, .int 0]) (rest := []) ⟨hx, hb, hml, hown, hts⟩ (s_X12_isOf l D H.size o a t i q c d y1_2 0 hI (show 0 ≤ y1_2.toInt ∧ y1_2.toInt ≤ 29 from by have h91 : (0 : Int32).toInt = 0 := (by decide +kernel); omega) (show 0 ≤ 0 from by decide +kernel)) (cwV 2 hts gm_X12_roomOf_X12_isOf rfl rfl rfl (by decide +kernel) ⟨Nat.le_of_ble_eq_true rfl, Nat.le_of_ble_eq_true rfl⟩) (pA_V hK hP (ci := 12) (q0 := 0) rfl rfl) rfl rfl hl.1 rfl (lv_room (Nat.le_of_ble_eq_true rfl)) dX12_roomOf_5 ⟨Nat.le_of_ble_eq_true rfl, Nat.le_of_ble_eq_true rfl⟩) hS hA hP (fun r2 u2 H locs hw2 hP hS => ?_)
      have hw2 : ((0 ≤ r2.toInt ∧ r2.toInt ≤ 1) ∧ (Sm r2 (Kd (c 3) (c 6) y1_2.toInt 0))) := hw2
      obtain ⟨hw2, hr2_0⟩ := hw2
      have hr2_0 : Sm r2 (Kd (c 3) (c 6) y1_2.toInt 0) := hr2_0
      refine lv_if_ne (tgt := 35) hx hb dX12_roomOf_8 (by decide +kernel) (fun c3 => ?_) (fun c3 => ?_)
      · have f3 := mt (ti_eq (a := r2.toInt) (b := 0) rfl (by decide +kernel)).mpr c3
        have s3 := sm_t hr2_0 c3
        refine lv_iload_n hx hb dX12_roomOf_35 rfl (lv_at hl 0 rfl) ?_
        exact ro_iret hx hb hr hlocks hS dX12_roomOf_36 (show y1_2.toInt = -9 ∨ (0 ≤ y1_2.toInt ∧ y1_2.toInt ≤ 29) from by omega)
      · have f3 := (ti_eq (a := r2.toInt) (b := 0) rfl (by decide +kernel)).mp c3
        have s3 := sm_f hr2_0 c3
        refine lv_aload_n hx hb dX12_roomOf_11 rfl (lv_at hl 1 rfl) ?_
        refine mget_23 hx hb hts (fun _ h => List.mem_cons_of_mem _ (List.mem_append_right _ h)) hown hK hP (hts (.fieldLink RX12 50 "TalePlayModel" "nForm" "[I") (List.mem_cons_of_mem _ (List.mem_append_left _ (List.mem_of_getElem? (i := 7) rfl)))) dX12_roomOf_12 ?_
        refine lv_iload_n hx hb dX12_roomOf_15 rfl (lv_at hl 0 rfl) ?_
        refine mld_23 hx hb hK hP (vp_in_iff.mpr (by have h9 : y1_2.toInt = y1_2.toInt := rfl; omega)) dX12_roomOf_16 (fun x4 ex4 => ?_)
        have rx4 : x4.toInt = -9 ∨ (0 ≤ x4.toInt ∧ x4.toInt ≤ 4) := by rw [ex4]; exact hI.2 23 _
        refine lv_bipush (v := (-9)) hx hb dX12_roomOf_17 (by decide +kernel) ?_
        refine lv_icmp_ne (tgt := 25) hx hb dX12_roomOf_19 (by decide +kernel) (fun c5 => ?_) (fun c5 => ?_)
        · have f5 := mt (ti_eq (a := x4.toInt) (b := (-9)) rfl (by decide +kernel)).mpr c5
          refine lv_aload_n hx hb dX12_roomOf_25 rfl (lv_at hl 1 rfl) ?_
          refine mget_24 hx hb hts (fun _ h => List.mem_cons_of_mem _ (List.mem_append_right _ h)) hown hK hP (hts (.fieldLink RX12 53 "TalePlayModel" "nAt" "[I") (List.mem_cons_of_mem _ (List.mem_append_left _ (List.mem_of_getElem? (i := 8) rfl)))) dX12_roomOf_26 ?_
          refine lv_iload_n hx hb dX12_roomOf_29 rfl (lv_at hl 0 rfl) ?_
          refine mld_24 hx hb hK hP (vp_in_iff.mpr (by have h9 : y1_2.toInt = y1_2.toInt := rfl; omega)) dX12_roomOf_30 (fun x6 ex6 => ?_)
          have rx6 : x6.toInt = -9 ∨ (0 ≤ x6.toInt ∧ x6.toInt ≤ 29) := by rw [ex6]; exact hI.2 24 _
          obtain ⟨hn, hax, hbx⟩ := T_st hT2 (y := y1_2) (by omega) ex4 (by omega) ex6
          have hk := hrk.2 y1_2.toInt (by omega) (by omega) (by rw [hn]; omega)
          rw [hn] at hk
          refine lv_istore_n (lv' := [(2, .int x6), (0, .ref o), (1, .int w)]) hx hb dX12_roomOf_31 rfl hl (by decide +kernel) rfl (fun ls hl => ?_)
          refine lv_goto (tgt := 2) hx hb dX12_roomOf_32 (by decide +kernel) ?_
          exact ih1 x6 (show 0 ≤ x6.toInt ∧ x6.toInt ≤ 29 from by omega) (show x6.toInt < (i 5).toInt from by omega) (by omega) _ _ _ hP hS (lv_sub hl [0, 1, 2] rfl)
        · have f5 := (ti_eq (a := x4.toInt) (b := (-9)) rfl (by decide +kernel)).mp c5
          refine lv_bipush (v := (-9)) hx hb dX12_roomOf_22 (by decide +kernel) ?_
          exact ro_iret hx hb hr hlocks hS dX12_roomOf_24 (show ((-9) : Int32).toInt = -9 ∨ (0 ≤ ((-9) : Int32).toInt ∧ ((-9) : Int32).toInt ≤ 29) from by decide +kernel)
  exact lp1 _ w (show 0 ≤ w.toInt ∧ w.toInt ≤ 29 from by omega) (show w.toInt < (i 5).toInt from by omega) (Nat.lt_succ_self _) _ _ _ hP hS (lv_sub hl [0, 1, 2] rfl)

def wm_X12_isInRoom : List Cond := .code yX12_isInRoom cX12_isInRoom 1 (some .boolean) :: (([.fieldLink RX12 50 "TalePlayModel" "nForm" "[I", .fieldLink RX12 155 "TalePlayModel" "player" "I", .fieldLink RX12 101 "TalePlayModel" "isRoom" "[Z", .fieldLink RX12 53 "TalePlayModel" "nAt" "[I"] : List Cond) ++ wsX120)
set_option maxHeartbeats 4000000 in
set_option maxRecDepth 100000 in
theorem s_X12_isInRoom (l : Launch) (D : va_G) (sz : Nat) (o : Nat) (a : Nat → Nat) (t : Nat → ClassId) (i : Nat → Int32) (q : Int64) (c : Nat → Nat → Int32) (d : Nat → Nat → Int64) (hI : mInv i c) (hs_T : TI (i 5).toInt (fun z => Kd (c 3) (c 6) z 0) (i 22).toInt (c 23) (c 24)) : Met l yX12_isInRoom wm_X12_isInRoom ({ frames := 0, cells := 0, slots := 0, locals := 0 }) (va_Pc [.ref o] (pA D sz (mW o a t i q c d) (mT t))) (va_Qi (fun (r : Int32) (_ : Unit) => (0 ≤ r.toInt ∧ r.toInt ≤ 1)) oA (ro sz)) 0 0 (ro sz) := by
  refine Met.ofW (cc := cX12_isInRoom) (maxL := 1) (ret := (some .boolean)) (by decide +kernel) rfl ?_
  intro p e s m args below meth cd s₁ B hml hv
  obtain ⟨rfl, hsz, hP, hK⟩ := hv
  have hx := B.exec
  have hb := B.bytes
  have hr := B.returns
  have hts := atoms_spec (ws := wm_X12_isInRoom) B.pre
  have hown : s.vm.findClass RX12 = some m.cls := findClass_of_methodNamed B.named
  have hlocks := B.notSynchronized
  subst hsz
  have hA : ∀ q : Nat, s.heap.size ≤ q → ro s.heap.size q := fun _ h => h
  have hS : va_S (ro s.heap.size) s.heap s.heap [] := va_S.rf
  have hl := lv_entry ([.ref o]) (n := 1) (Nat.le_of_ble_eq_true rfl)
  rw [lg_entry_eq]
  generalize (lg_sl ([.ref o]) ++ List.replicate (1 - (lg_sl ([.ref o])).length) Slot.unset).toArray = ls at hl ⊢
  have hl : lv_has ls 1 [(0, .ref o)] := hl
  have rb5_i : 0 ≤ (i 5).toInt ∧ (i 5).toInt ≤ 30 := hI.1 5
  have rb22_i : (i 22).toInt = -9 ∨ (0 ≤ (i 22).toInt ∧ (i 22).toInt ≤ 29) := hI.1 22
  have hTt := hs_T
  obtain ⟨⟨hp0, hp1, hp2⟩, hT2, hT3, ⟨rk, hrk⟩, rr, hq0, hq1, hq2, hq3⟩ := hTt
  have hsp : Sp (nF (i 5).toInt (c 23) (c 24)) := nF_Sp (by omega) hT2
  have hpl := TI_p hs_T
  have hpa : 0 ≤ (c 24 (i 22).toNatClampNeg).toInt ∧ (c 24 (i 22).toNatClampNeg).toInt < (i 5).toInt := hT2 _ hp0 hp1 hpl
  refine lv_aload_n hx hb dX12_isInRoom_0 rfl (lv_at hl 0 rfl) ?_
  refine mget_23 hx hb hts (fun _ h => List.mem_cons_of_mem _ (List.mem_append_right _ h)) hown hK hP (hts (.fieldLink RX12 50 "TalePlayModel" "nForm" "[I") (List.mem_cons_of_mem _ (List.mem_append_left _ (List.mem_of_getElem? (i := 0) rfl)))) dX12_isInRoom_1 ?_
  refine lv_aload_n hx hb dX12_isInRoom_4 rfl (lv_at hl 0 rfl) ?_
  refine mget_22 (v := (i 22)) rfl hx hb hts (fun _ h => List.mem_cons_of_mem _ (List.mem_append_right _ h)) hown hK hP (hts (.fieldLink RX12 155 "TalePlayModel" "player" "I") (List.mem_cons_of_mem _ (List.mem_append_left _ (List.mem_of_getElem? (i := 1) rfl)))) dX12_isInRoom_5 ?_
  refine mld_23 hx hb hK hP (vp_in_iff.mpr (by have h9 : (i 22).toInt = (i 22).toInt := rfl; omega)) dX12_isInRoom_8 (fun x1 ex1 => ?_)
  have rx1 : x1.toInt = -9 ∨ (0 ≤ x1.toInt ∧ x1.toInt ≤ 4) := by rw [ex1]; exact hI.2 23 _
  refine lv_if_ne (tgt := 33) hx hb dX12_isInRoom_9 (by decide +kernel) (fun c2 => ?_) (fun c2 => ?_)
  · have f2 := mt (ti_eq (a := x1.toInt) (b := 0) rfl (by decide +kernel)).mpr c2
    refine lv_iconst (v := 0) hx hb dX12_isInRoom_33 (by decide +kernel) ?_
    exact ro_zret hx hb hr hlocks hS rfl dX12_isInRoom_34 (show 0 ≤ (0 : Int32).toInt ∧ (0 : Int32).toInt ≤ 1 from by decide +kernel)
  · have f2 := (ti_eq (a := x1.toInt) (b := 0) rfl (by decide +kernel)).mp c2
    refine lv_aload_n hx hb dX12_isInRoom_12 rfl (lv_at hl 0 rfl) ?_
    refine mget_48 hx hb hts (fun _ h => List.mem_cons_of_mem _ (List.mem_append_right _ h)) hown hK hP (hts (.fieldLink RX12 101 "TalePlayModel" "isRoom" "[Z") (List.mem_cons_of_mem _ (List.mem_append_left _ (List.mem_of_getElem? (i := 2) rfl)))) dX12_isInRoom_13 ?_
    refine lv_aload_n hx hb dX12_isInRoom_16 rfl (lv_at hl 0 rfl) ?_
    refine mget_24 hx hb hts (fun _ h => List.mem_cons_of_mem _ (List.mem_append_right _ h)) hown hK hP (hts (.fieldLink RX12 53 "TalePlayModel" "nAt" "[I") (List.mem_cons_of_mem _ (List.mem_append_left _ (List.mem_of_getElem? (i := 3) rfl)))) dX12_isInRoom_17 ?_
    refine lv_aload_n hx hb dX12_isInRoom_20 rfl (lv_at hl 0 rfl) ?_
    refine mget_22 (v := (i 22)) rfl hx hb hts (fun _ h => List.mem_cons_of_mem _ (List.mem_append_right _ h)) hown hK hP (hts (.fieldLink RX12 155 "TalePlayModel" "player" "I") (List.mem_cons_of_mem _ (List.mem_append_left _ (List.mem_of_getElem? (i := 1) rfl)))) dX12_isInRoom_21 ?_
    refine mld_24 hx hb hK hP (vp_in_iff.mpr (by have h9 : (i 22).toInt = (i 22).toInt := rfl; omega)) dX12_isInRoom_24 (fun x3 ex3 => ?_)
    have rx3 : x3.toInt = -9 ∨ (0 ≤ x3.toInt ∧ x3.toInt ≤ 29) := by rw [ex3]; exact hI.2 24 _
    have gx3 : (c 24 ((i 22) : Int32).toNatClampNeg).toInt = x3.toInt := by rw [ex3]
    refine mld_48 hx hb hK hP (vp_in_iff.mpr (by have h9 : x3.toInt = x3.toInt := rfl; omega)) dX12_isInRoom_25 (fun x4 ex4 => ?_)
    have rx4 : 0 ≤ x4.toInt ∧ x4.toInt ≤ 1 := by rw [ex4]; exact hI.2 48 _
    refine lv_if_eq (tgt := 33) hx hb dX12_isInRoom_26 (by decide +kernel) (fun c5 => ?_) (fun c5 => ?_)
    · have f5 := (ti_eq (a := x4.toInt) (b := 0) rfl (by decide +kernel)).mp c5
      refine lv_iconst (v := 0) hx hb dX12_isInRoom_33 (by decide +kernel) ?_
      exact ro_zret hx hb hr hlocks hS rfl dX12_isInRoom_34 (show 0 ≤ (0 : Int32).toInt ∧ (0 : Int32).toInt ≤ 1 from by decide +kernel)
    · have f5 := mt (ti_eq (a := x4.toInt) (b := 0) rfl (by decide +kernel)).mpr c5
      refine lv_iconst (v := 1) hx hb dX12_isInRoom_29 (by decide +kernel) ?_
      refine lv_goto (tgt := 34) hx hb dX12_isInRoom_30 (by decide +kernel) ?_
      exact ro_zret hx hb hr hlocks hS rfl dX12_isInRoom_34 (show 0 ≤ (1 : Int32).toInt ∧ (1 : Int32).toInt ≤ 1 from by decide +kernel)

def wm_X12_whyNotGo : List Cond := .code yX12_whyNotGo cX12_whyNotGo 2 (some .int) :: ((([.methodLink RX12 348 yX12_isInRoom, .instanceMethod yX12_isInRoom, .selects RX12 yX12_isInRoom yX12_isInRoom, .initialized RX12, .code yX12_isInRoom cX12_isInRoom 1 (some .boolean), .fieldLink RX12 50 "TalePlayModel" "nForm" "[I", .fieldLink RX12 155 "TalePlayModel" "player" "I", .fieldLink RX12 101 "TalePlayModel" "isRoom" "[Z", .fieldLink RX12 53 "TalePlayModel" "nAt" "[I", .methodLink RX12 281 yX12_findExit, .instanceMethod yX12_findExit, .selects RX12 yX12_findExit yX12_findExit, .code yX12_findExit cX12_findExit 6 (some .boolean), .fieldLink RX12 263 "TalePlayModel" "leads" "I", .fieldLink RX12 266 "TalePlayModel" "byDoor" "I", .fieldLink RX12 269 "TalePlayModel" "bySentence" "I"] : List Cond) ++ (([.fieldLink RX12 272 "TalePlayModel" "isImplied" "Z", .fieldLink RX12 202 "TalePlayModel" "sentences" "I", .fieldLink RX12 28 "TalePlayModel" "left" "[I", .fieldLink RX12 31 "TalePlayModel" "middle" "[I", .methodLink RX12 184 yX12_isOf, .instanceMethod yX12_isOf, .selects RX12 yX12_isOf yX12_isOf, .code yX12_isOf cX12_isOf 4 (some .boolean), .fieldLink RX12 19 "TalePlayModel" "kindOf" "[I", .fieldLink RX12 13 "TalePlayModel" "parentOf" "[I", .methodLink RX12 276 yX12_otherSide, .instanceMethod yX12_otherSide, .selects RX12 yX12_otherSide yX12_otherSide, .code yX12_otherSide cX12_otherSide 4 (some .int), .fieldLink RX12 37 "TalePlayModel" "isSaid" "[Z", .fieldLink RX12 25 "TalePlayModel" "form" "[I"] : List Cond) ++ ([.fieldLink RX12 34 "TalePlayModel" "right" "[I", .fieldLink RX12 56 "TalePlayModel" "nOpen" "[Z"] : List Cond))) ++ wsX120)
set_option maxRecDepth 20000 in
theorem gm_X12_whyNotGo_X12_isInRoom : GoodIn wm_X12_whyNotGo (wsV RX12 348 RX12 yX12_isInRoom wm_X12_isInRoom) := goodIn_w (List.forall_mem_append.mpr ⟨List.forall_mem_cons.mpr ⟨List.mem_cons_of_mem _ (List.mem_append_left _ (List.mem_append_left _ (List.mem_of_getElem? (i := 0) rfl))), List.forall_mem_cons.mpr ⟨List.mem_cons_of_mem _ (List.mem_append_left _ (List.mem_append_left _ (List.mem_of_getElem? (i := 1) rfl))), List.forall_mem_cons.mpr ⟨List.mem_cons_of_mem _ (List.mem_append_left _ (List.mem_append_left _ (List.mem_of_getElem? (i := 2) rfl))), List.forall_mem_cons.mpr ⟨List.mem_cons_of_mem _ (List.mem_append_left _ (List.mem_append_left _ (List.mem_of_getElem? (i := 3) rfl))), (fun _ h => absurd h List.not_mem_nil)⟩⟩⟩⟩, List.forall_mem_cons.mpr ⟨List.mem_cons_of_mem _ (List.mem_append_left _ (List.mem_append_left _ (List.mem_of_getElem? (i := 4) rfl))), List.forall_mem_append.mpr ⟨List.forall_mem_cons.mpr ⟨List.mem_cons_of_mem _ (List.mem_append_left _ (List.mem_append_left _ (List.mem_of_getElem? (i := 5) rfl))), List.forall_mem_cons.mpr ⟨List.mem_cons_of_mem _ (List.mem_append_left _ (List.mem_append_left _ (List.mem_of_getElem? (i := 6) rfl))), List.forall_mem_cons.mpr ⟨List.mem_cons_of_mem _ (List.mem_append_left _ (List.mem_append_left _ (List.mem_of_getElem? (i := 7) rfl))), List.forall_mem_cons.mpr ⟨List.mem_cons_of_mem _ (List.mem_append_left _ (List.mem_append_left _ (List.mem_of_getElem? (i := 8) rfl))), (fun _ h => absurd h List.not_mem_nil)⟩⟩⟩⟩, (fun _ h => List.mem_cons_of_mem _ (List.mem_append_right _ h))⟩⟩⟩) (by decide +kernel)
set_option maxRecDepth 20000 in
theorem gm_X12_whyNotGo_X12_findExit : GoodIn wm_X12_whyNotGo (wsV RX12 281 RX12 yX12_findExit wm_X12_findExit) := goodIn_w (List.forall_mem_append.mpr ⟨List.forall_mem_cons.mpr ⟨List.mem_cons_of_mem _ (List.mem_append_left _ (List.mem_append_left _ (List.mem_of_getElem? (i := 9) rfl))), List.forall_mem_cons.mpr ⟨List.mem_cons_of_mem _ (List.mem_append_left _ (List.mem_append_left _ (List.mem_of_getElem? (i := 10) rfl))), List.forall_mem_cons.mpr ⟨List.mem_cons_of_mem _ (List.mem_append_left _ (List.mem_append_left _ (List.mem_of_getElem? (i := 11) rfl))), List.forall_mem_cons.mpr ⟨List.mem_cons_of_mem _ (List.mem_append_left _ (List.mem_append_left _ (List.mem_of_getElem? (i := 3) rfl))), (fun _ h => absurd h List.not_mem_nil)⟩⟩⟩⟩, List.forall_mem_cons.mpr ⟨List.mem_cons_of_mem _ (List.mem_append_left _ (List.mem_append_left _ (List.mem_of_getElem? (i := 12) rfl))), List.forall_mem_append.mpr ⟨List.forall_mem_append.mpr ⟨List.forall_mem_cons.mpr ⟨List.mem_cons_of_mem _ (List.mem_append_left _ (List.mem_append_left _ (List.mem_of_getElem? (i := 13) rfl))), List.forall_mem_cons.mpr ⟨List.mem_cons_of_mem _ (List.mem_append_left _ (List.mem_append_left _ (List.mem_of_getElem? (i := 14) rfl))), List.forall_mem_cons.mpr ⟨List.mem_cons_of_mem _ (List.mem_append_left _ (List.mem_append_left _ (List.mem_of_getElem? (i := 15) rfl))), List.forall_mem_cons.mpr ⟨List.mem_cons_of_mem _ (List.mem_append_left _ (List.mem_append_right _ (List.mem_append_left _ (List.mem_of_getElem? (i := 0) rfl)))), List.forall_mem_cons.mpr ⟨List.mem_cons_of_mem _ (List.mem_append_left _ (List.mem_append_right _ (List.mem_append_left _ (List.mem_of_getElem? (i := 1) rfl)))), List.forall_mem_cons.mpr ⟨List.mem_cons_of_mem _ (List.mem_append_left _ (List.mem_append_right _ (List.mem_append_left _ (List.mem_of_getElem? (i := 2) rfl)))), List.forall_mem_cons.mpr ⟨List.mem_cons_of_mem _ (List.mem_append_left _ (List.mem_append_right _ (List.mem_append_left _ (List.mem_of_getElem? (i := 3) rfl)))), List.forall_mem_cons.mpr ⟨List.mem_cons_of_mem _ (List.mem_append_left _ (List.mem_append_right _ (List.mem_append_left _ (List.mem_of_getElem? (i := 4) rfl)))), List.forall_mem_cons.mpr ⟨List.mem_cons_of_mem _ (List.mem_append_left _ (List.mem_append_right _ (List.mem_append_left _ (List.mem_of_getElem? (i := 5) rfl)))), List.forall_mem_cons.mpr ⟨List.mem_cons_of_mem _ (List.mem_append_left _ (List.mem_append_right _ (List.mem_append_left _ (List.mem_of_getElem? (i := 6) rfl)))), List.forall_mem_cons.mpr ⟨List.mem_cons_of_mem _ (List.mem_append_left _ (List.mem_append_left _ (List.mem_of_getElem? (i := 3) rfl))), List.forall_mem_cons.mpr ⟨List.mem_cons_of_mem _ (List.mem_append_left _ (List.mem_append_right _ (List.mem_append_left _ (List.mem_of_getElem? (i := 7) rfl)))), List.forall_mem_cons.mpr ⟨List.mem_cons_of_mem _ (List.mem_append_left _ (List.mem_append_right _ (List.mem_append_left _ (List.mem_of_getElem? (i := 8) rfl)))), List.forall_mem_cons.mpr ⟨List.mem_cons_of_mem _ (List.mem_append_left _ (List.mem_append_right _ (List.mem_append_left _ (List.mem_of_getElem? (i := 9) rfl)))), List.forall_mem_cons.mpr ⟨List.mem_cons_of_mem _ (List.mem_append_left _ (List.mem_append_right _ (List.mem_append_left _ (List.mem_of_getElem? (i := 10) rfl)))), List.forall_mem_cons.mpr ⟨List.mem_cons_of_mem _ (List.mem_append_left _ (List.mem_append_right _ (List.mem_append_left _ (List.mem_of_getElem? (i := 11) rfl)))), (fun _ h => absurd h List.not_mem_nil)⟩⟩⟩⟩⟩⟩⟩⟩⟩⟩⟩⟩⟩⟩⟩⟩, List.forall_mem_cons.mpr ⟨List.mem_cons_of_mem _ (List.mem_append_left _ (List.mem_append_right _ (List.mem_append_left _ (List.mem_of_getElem? (i := 12) rfl)))), List.forall_mem_cons.mpr ⟨List.mem_cons_of_mem _ (List.mem_append_left _ (List.mem_append_right _ (List.mem_append_left _ (List.mem_of_getElem? (i := 13) rfl)))), List.forall_mem_cons.mpr ⟨List.mem_cons_of_mem _ (List.mem_append_left _ (List.mem_append_right _ (List.mem_append_left _ (List.mem_of_getElem? (i := 14) rfl)))), List.forall_mem_cons.mpr ⟨List.mem_cons_of_mem _ (List.mem_append_left _ (List.mem_append_right _ (List.mem_append_left _ (List.mem_of_getElem? (i := 15) rfl)))), List.forall_mem_cons.mpr ⟨List.mem_cons_of_mem _ (List.mem_append_left _ (List.mem_append_right _ (List.mem_append_right _ (List.mem_of_getElem? (i := 0) rfl)))), (fun _ h => absurd h List.not_mem_nil)⟩⟩⟩⟩⟩⟩, (fun _ h => List.mem_cons_of_mem _ (List.mem_append_right _ h))⟩⟩⟩) (by decide +kernel)
set_option maxHeartbeats 4000000 in
set_option maxRecDepth 100000 in
theorem s_X12_whyNotGo (l : Launch) (D : va_G) (sz : Nat) (o : Nat) (a : Nat → Nat) (t : Nat → ClassId) (i : Nat → Int32) (q : Int64) (c : Nat → Nat → Int32) (d : Nat → Nat → Int64) (d1 : Int32) (hI : mInv i c) (hd1 : 0 ≤ d1.toInt ∧ d1.toInt ≤ 9) (hs_T : TI (i 5).toInt (fun z => Kd (c 3) (c 6) z 0) (i 22).toInt (c 23) (c 24)) : Met l yX12_whyNotGo wm_X12_whyNotGo ({ frames := 2, cells := 0, slots := 0, locals := 48 }) (va_Pc [.ref o, .int d1] (pB D sz (mW o a t i q c d) (mT t))) (va_Qi (fun (r : Int32) (u : MS) => ((0 ≤ r.toInt ∧ r.toInt ≤ 3) ∧ (Im (r.toInt = 0) (∃ v, LdR (c 3) (c 6) (c 9) (c 10) (c 11) (c 12) (c 13) (i 8).toInt (c 24 (i 22).toInt.toNat).toInt d1.toInt v ∧ ¬ v = -9))) ∧ mInv u.1 u.2.2.1 ∧ (∀ k, k ∉ ([16, 17, 18, 19] : List Nat) → u.1 k = i k) ∧ (∀ k, k ∉ ([] : List Nat) → u.2.2.1 k = c k)) (oC D (va_A (mW o a t i q c d) sz) (fun u : MS => mW o a t u.1 u.2.1 u.2.2.1 u.2.2.2) (fun _ => [])) (va_A (mW o a t i q c d) sz)) 0 0 (va_A (mW o a t i q c d) sz) := by
  refine Met.ofW (cc := cX12_whyNotGo) (maxL := 2) (ret := (some .int)) (by decide +kernel) rfl ?_
  intro p e s m args below meth cd s₁ B hml hv
  obtain ⟨rfl, hsz, hP, hK, hD0⟩ := hv
  have hx := B.exec
  have hb := B.bytes
  have hr := B.returns
  have hts := atoms_spec (ws := wm_X12_whyNotGo) B.pre
  have hown : s.vm.findClass RX12 = some m.cls := findClass_of_methodNamed B.named
  have hlocks := B.notSynchronized
  subst hsz
  have hD := hD0.self (sz := s.heap.size)
  generalize hAe : va_A (mW o a t i q c d) s.heap.size = A at hD ⊢
  have hA : ∀ q : Nat, s.heap.size ≤ q → A q := fun q h => by rw [← hAe]; exact Or.inr h
  have hS : va_S A s.heap s.heap [] := va_S.rf
  have hfi : ∀ k, k ∉ ([] : List Nat) → i k = i k := fun _ _ => rfl
  have hfc : ∀ k, k ∉ ([] : List Nat) → c k = c k := fun _ _ => rfl
  have hl := lv_entry ([.ref o, .int d1]) (n := 2) (Nat.le_of_ble_eq_true rfl)
  rw [lg_entry_eq]
  generalize (lg_sl ([.ref o, .int d1]) ++ List.replicate (2 - (lg_sl ([.ref o, .int d1])).length) Slot.unset).toArray = ls at hl ⊢
  have hl : lv_has ls 2 [(0, .ref o), (1, .int d1)] := hl
  have rb5_i : 0 ≤ (i 5).toInt ∧ (i 5).toInt ≤ 30 := hI.1 5
  have rb22_i : (i 22).toInt = -9 ∨ (0 ≤ (i 22).toInt ∧ (i 22).toInt ≤ 29) := hI.1 22
  have hTt := hs_T
  obtain ⟨⟨hp0, hp1, hp2⟩, hT2, hT3, ⟨rk, hrk⟩, rr, hq0, hq1, hq2, hq3⟩ := hTt
  have hsp : Sp (nF (i 5).toInt (c 23) (c 24)) := nF_Sp (by omega) hT2
  have hpl := TI_p hs_T
  have hpa : 0 ≤ (c 24 (i 22).toNatClampNeg).toInt ∧ (c 24 (i 22).toNatClampNeg).toInt < (i 5).toInt := hT2 _ hp0 hp1 hpl
  refine lv_aload_n hx hb dX12_whyNotGo_0 rfl (lv_at hl 0 rfl) ?_
  refine ro_calli (va_runV (As := []) (rest := []) ⟨hx, hb, hml, hown, hts⟩ (s_X12_isInRoom l D s.heap.size o a t i q c d  hI hs_T) (cwV 0 hts gm_X12_whyNotGo_X12_isInRoom rfl rfl rfl (by decide +kernel) ⟨Nat.le_of_ble_eq_true rfl, Nat.le_of_ble_eq_true rfl⟩) (pA_V hK hP (ci := 12) (q0 := 0) rfl rfl) rfl rfl hl.1 rfl (lv_room (Nat.le_of_ble_eq_true rfl)) dX12_whyNotGo_1 ⟨Nat.le_of_ble_eq_true rfl, Nat.le_of_ble_eq_true rfl⟩) hS hA hP (fun r1 u1 H locs hw1 hP hS => ?_)
  have hw1 : (0 ≤ r1.toInt ∧ r1.toInt ≤ 1) := hw1
  refine lv_if_ne (tgt := 9) hx hb dX12_whyNotGo_4 (by decide +kernel) (fun c2 => ?_) (fun c2 => ?_)
  · have f2 := mt (ti_eq (a := r1.toInt) (b := 0) rfl (by decide +kernel)).mpr c2
    refine lv_aload_n hx hb dX12_whyNotGo_9 rfl (lv_at hl 0 rfl) ?_
    refine lv_aload_n hx hb dX12_whyNotGo_10 rfl (lv_at hl 0 rfl) ?_
    refine mget_24 hx hb hts (fun _ h => List.mem_cons_of_mem _ (List.mem_append_right _ h)) hown hK hP (hts (.fieldLink RX12 53 "TalePlayModel" "nAt" "[I") (List.mem_cons_of_mem _ (List.mem_append_left _ (List.mem_append_left _ (List.mem_of_getElem? (i := 8) rfl))))) dX12_whyNotGo_11 ?_
    refine lv_aload_n hx hb dX12_whyNotGo_14 rfl (lv_at hl 0 rfl) ?_
    refine mget_22 (v := (i 22)) rfl hx hb hts (fun _ h => List.mem_cons_of_mem _ (List.mem_append_right _ h)) hown hK hP (hts (.fieldLink RX12 155 "TalePlayModel" "player" "I") (List.mem_cons_of_mem _ (List.mem_append_left _ (List.mem_append_left _ (List.mem_of_getElem? (i := 6) rfl))))) dX12_whyNotGo_15 ?_
    refine mld_24 hx hb hK hP (vp_in_iff.mpr (by have h9 : (i 22).toInt = (i 22).toInt := rfl; omega)) dX12_whyNotGo_18 (fun x3 ex3 => ?_)
    have rx3 : x3.toInt = -9 ∨ (0 ≤ x3.toInt ∧ x3.toInt ≤ 29) := by rw [ex3]; exact hI.2 24 _
    have gx3 : (c 24 ((i 22) : Int32).toNatClampNeg).toInt = x3.toInt := by rw [ex3]
    refine lv_iload_n hx hb dX12_whyNotGo_19 rfl (lv_at hl 1 rfl) ?_
    have rb8_i : 0 ≤ (i 8).toInt ∧ (i 8).toInt ≤ 200 := hI.1 8
    refine al_calli (va_runV (As := [.int x3, .int d1]) (rest := []) ⟨hx, hb, hml, hown, hts⟩ (s_X12_findExit l D H.size o a t i q c d x3 d1 hI (show 0 ≤ x3.toInt ∧ x3.toInt ≤ 29 from by omega) (show 0 ≤ d1.toInt ∧ d1.toInt ≤ 9 from by omega)) (cwV 2 hts gm_X12_whyNotGo_X12_findExit rfl rfl rfl (by decide +kernel) ⟨Nat.le_of_ble_eq_true rfl, Nat.le_of_ble_eq_true rfl⟩) (pB_V hK hP hD (ci := 12) (q0 := 0) rfl rfl) rfl rfl hl.1 rfl (lv_room (Nat.le_of_ble_eq_true rfl)) dX12_whyNotGo_20 ⟨Nat.le_of_ble_eq_true rfl, Nat.le_of_ble_eq_true rfl⟩) hS hA hP hD (fun r4 u4 H locs hw4 hP hD hS => ?_)
    obtain ⟨i4, q4, c4, d4⟩ := u4
    have hw4 : (0 ≤ r4.toInt ∧ r4.toInt ≤ 1) ∧ mInv i4 c4 ∧ (∀ k, k ∉ ([16, 17, 18, 19] : List Nat) → i4 k = i k) ∧ (∀ k, k ∉ ([] : List Nat) → c4 k = c k) ∧ (LdR (c 3) (c 6) (c 9) (c 10) (c 11) (c 12) (c 13) (i 8).toInt x3.toInt d1.toInt (i4 16).toInt) := hw4
    obtain ⟨hw4, hI, hei4, hec4, hxp4_0⟩ := hw4
    have hxp4_0 : LdR (c 3) (c 6) (c 9) (c 10) (c 11) (c 12) (c 13) (i 8).toInt x3.toInt d1.toInt (i4 16).toInt := hxp4_0
    have hfi : ∀ k, k ∉ ([16, 17, 18, 19] : List Nat) → i4 k = i k := fr_z hfi hei4 (by decide +kernel) (by decide +kernel)
    have hfc : ∀ k, k ∉ ([] : List Nat) → c4 k = c k := fr_z hfc hec4 (by decide +kernel) (by decide +kernel)
    have hP : va_P D vwCl (mW o a t i4 q4 c4 d4) H := hP
    have hD : va_D A (mW o a t i4 q4 c4 d4) := hD
    refine lv_if_eq (tgt := 35) hx hb dX12_whyNotGo_23 (by decide +kernel) (fun c5 => ?_) (fun c5 => ?_)
    · have f5 := (ti_eq (a := r4.toInt) (b := 0) rfl (by decide +kernel)).mp c5
      refine lv_iconst (v := 2) hx hb dX12_whyNotGo_35 (by decide +kernel) ?_
      exact rw_iret (i4, q4, c4, d4) hx hb hr hlocks hS (hK.sub (tys' := []) [] rfl) hP hD dX12_whyNotGo_36 ⟨⟨(show 0 ≤ (2 : Int32).toInt ∧ (2 : Int32).toInt ≤ 3 from by decide +kernel), (show Im ((2 : Int32).toInt = 0) (∃ v, LdR (c 3) (c 6) (c 9) (c 10) (c 11) (c 12) (c 13) (i 8).toInt (c 24 (i 22).toInt.toNat).toInt d1.toInt v ∧ ¬ v = -9) from fun h9 => absurd h9 (by decide +kernel))⟩, hI, fr_w hfi (by decide +kernel), fr_w hfc (by decide +kernel)⟩
    · have f5 := mt (ti_eq (a := r4.toInt) (b := 0) rfl (by decide +kernel)).mpr c5
      refine lv_aload_n hx hb dX12_whyNotGo_26 rfl (lv_at hl 0 rfl) ?_
      refine mget_16 (v := (i4 16)) rfl hx hb hts (fun _ h => List.mem_cons_of_mem _ (List.mem_append_right _ h)) hown hK hP (hts (.fieldLink RX12 263 "TalePlayModel" "leads" "I") (List.mem_cons_of_mem _ (List.mem_append_left _ (List.mem_append_left _ (List.mem_of_getElem? (i := 13) rfl))))) dX12_whyNotGo_27 ?_
      have rb16_i4 : (i4 16).toInt = -9 ∨ (0 ≤ (i4 16).toInt ∧ (i4 16).toInt ≤ 29) := hI.1 16
      refine lv_bipush (v := (-9)) hx hb dX12_whyNotGo_30 (by decide +kernel) ?_
      refine lv_icmp_ne (tgt := 37) hx hb dX12_whyNotGo_32 (by decide +kernel) (fun c6 => ?_) (fun c6 => ?_)
      · have f6 := mt (ti_eq (a := (i4 16).toInt) (b := (-9)) rfl (by decide +kernel)).mpr c6
        refine lv_aload_n hx hb dX12_whyNotGo_37 rfl (lv_at hl 0 rfl) ?_
        refine mget_17 (v := (i4 17)) rfl hx hb hts (fun _ h => List.mem_cons_of_mem _ (List.mem_append_right _ h)) hown hK hP (hts (.fieldLink RX12 266 "TalePlayModel" "byDoor" "I") (List.mem_cons_of_mem _ (List.mem_append_left _ (List.mem_append_left _ (List.mem_of_getElem? (i := 14) rfl))))) dX12_whyNotGo_38 ?_
        have rb17_i4 : (i4 17).toInt = -9 ∨ (0 ≤ (i4 17).toInt ∧ (i4 17).toInt ≤ 29) := hI.1 17
        refine lv_bipush (v := (-9)) hx hb dX12_whyNotGo_41 (by decide +kernel) ?_
        refine lv_icmp_eq (tgt := 62) hx hb dX12_whyNotGo_43 (by decide +kernel) (fun c7 => ?_) (fun c7 => ?_)
        · have f7 := (ti_eq (a := (i4 17).toInt) (b := (-9)) rfl (by decide +kernel)).mp c7
          refine lv_iconst (v := 0) hx hb dX12_whyNotGo_62 (by decide +kernel) ?_
          exact rw_iret (i4, q4, c4, d4) hx hb hr hlocks hS (hK.sub (tys' := []) [] rfl) hP hD dX12_whyNotGo_63 ⟨⟨(show 0 ≤ (0 : Int32).toInt ∧ (0 : Int32).toInt ≤ 3 from by decide +kernel), (show Im ((0 : Int32).toInt = 0) (∃ v, LdR (c 3) (c 6) (c 9) (c 10) (c 11) (c 12) (c 13) (i 8).toInt (c 24 (i 22).toInt.toNat).toInt d1.toInt v ∧ ¬ v = -9) from fun _ => ⟨_, by rw [show (c 24 (i 22).toInt.toNat).toInt = x3.toInt from gx3]; exact hxp4_0, by omega⟩)⟩, hI, fr_w hfi (by decide +kernel), fr_w hfc (by decide +kernel)⟩
        · have f7 := mt (ti_eq (a := (i4 17).toInt) (b := (-9)) rfl (by decide +kernel)).mpr c7
          refine lv_aload_n hx hb dX12_whyNotGo_46 rfl (lv_at hl 0 rfl) ?_
          refine mget_25 hx hb hts (fun _ h => List.mem_cons_of_mem _ (List.mem_append_right _ h)) hown hK hP (hts (.fieldLink RX12 56 "TalePlayModel" "nOpen" "[Z") (List.mem_cons_of_mem _ (List.mem_append_left _ (List.mem_append_right _ (List.mem_append_right _ (List.mem_of_getElem? (i := 1) rfl)))))) dX12_whyNotGo_47 ?_
          refine lv_aload_n hx hb dX12_whyNotGo_50 rfl (lv_at hl 0 rfl) ?_
          refine mget_17 (v := (i4 17)) rfl hx hb hts (fun _ h => List.mem_cons_of_mem _ (List.mem_append_right _ h)) hown hK hP (hts (.fieldLink RX12 266 "TalePlayModel" "byDoor" "I") (List.mem_cons_of_mem _ (List.mem_append_left _ (List.mem_append_left _ (List.mem_of_getElem? (i := 14) rfl))))) dX12_whyNotGo_51 ?_
          refine mld_25 hx hb hK hP (vp_in_iff.mpr (by have h9 : (i4 17).toInt = (i4 17).toInt := rfl; omega)) dX12_whyNotGo_54 (fun x8 ex8 => ?_)
          have rx8 : 0 ≤ x8.toInt ∧ x8.toInt ≤ 1 := by rw [ex8]; exact hI.2 25 _
          refine lv_if_ne (tgt := 62) hx hb dX12_whyNotGo_55 (by decide +kernel) (fun c9 => ?_) (fun c9 => ?_)
          · have f9 := mt (ti_eq (a := x8.toInt) (b := 0) rfl (by decide +kernel)).mpr c9
            refine lv_iconst (v := 0) hx hb dX12_whyNotGo_62 (by decide +kernel) ?_
            exact rw_iret (i4, q4, c4, d4) hx hb hr hlocks hS (hK.sub (tys' := []) [] rfl) hP hD dX12_whyNotGo_63 ⟨⟨(show 0 ≤ (0 : Int32).toInt ∧ (0 : Int32).toInt ≤ 3 from by decide +kernel), (show Im ((0 : Int32).toInt = 0) (∃ v, LdR (c 3) (c 6) (c 9) (c 10) (c 11) (c 12) (c 13) (i 8).toInt (c 24 (i 22).toInt.toNat).toInt d1.toInt v ∧ ¬ v = -9) from fun _ => ⟨_, by rw [show (c 24 (i 22).toInt.toNat).toInt = x3.toInt from gx3]; exact hxp4_0, by omega⟩)⟩, hI, fr_w hfi (by decide +kernel), fr_w hfc (by decide +kernel)⟩
          · have f9 := (ti_eq (a := x8.toInt) (b := 0) rfl (by decide +kernel)).mp c9
            refine lv_iconst (v := 3) hx hb dX12_whyNotGo_58 (by decide +kernel) ?_
            refine lv_goto (tgt := 63) hx hb dX12_whyNotGo_59 (by decide +kernel) ?_
            exact rw_iret (i4, q4, c4, d4) hx hb hr hlocks hS (hK.sub (tys' := []) [] rfl) hP hD dX12_whyNotGo_63 ⟨⟨(show 0 ≤ (3 : Int32).toInt ∧ (3 : Int32).toInt ≤ 3 from by decide +kernel), (show Im ((3 : Int32).toInt = 0) (∃ v, LdR (c 3) (c 6) (c 9) (c 10) (c 11) (c 12) (c 13) (i 8).toInt (c 24 (i 22).toInt.toNat).toInt d1.toInt v ∧ ¬ v = -9) from fun h9 => absurd h9 (by decide +kernel))⟩, hI, fr_w hfi (by decide +kernel), fr_w hfc (by decide +kernel)⟩
      · have f6 := (ti_eq (a := (i4 16).toInt) (b := (-9)) rfl (by decide +kernel)).mp c6
        refine lv_iconst (v := 2) hx hb dX12_whyNotGo_35 (by decide +kernel) ?_
        exact rw_iret (i4, q4, c4, d4) hx hb hr hlocks hS (hK.sub (tys' := []) [] rfl) hP hD dX12_whyNotGo_36 ⟨⟨(show 0 ≤ (2 : Int32).toInt ∧ (2 : Int32).toInt ≤ 3 from by decide +kernel), (show Im ((2 : Int32).toInt = 0) (∃ v, LdR (c 3) (c 6) (c 9) (c 10) (c 11) (c 12) (c 13) (i 8).toInt (c 24 (i 22).toInt.toNat).toInt d1.toInt v ∧ ¬ v = -9) from fun h9 => absurd h9 (by decide +kernel))⟩, hI, fr_w hfi (by decide +kernel), fr_w hfc (by decide +kernel)⟩
  · have f2 := (ti_eq (a := r1.toInt) (b := 0) rfl (by decide +kernel)).mp c2
    refine lv_iconst (v := 1) hx hb dX12_whyNotGo_7 (by decide +kernel) ?_
    exact rw_iret (i, q, c, d) hx hb hr hlocks hS (hK.sub (tys' := []) [] rfl) hP hD dX12_whyNotGo_8 ⟨⟨(show 0 ≤ (1 : Int32).toInt ∧ (1 : Int32).toInt ≤ 3 from by decide +kernel), (show Im ((1 : Int32).toInt = 0) (∃ v, LdR (c 3) (c 6) (c 9) (c 10) (c 11) (c 12) (c 13) (i 8).toInt (c 24 (i 22).toInt.toNat).toInt d1.toInt v ∧ ¬ v = -9) from fun h9 => absurd h9 (by decide +kernel))⟩, hI, fr_w hfi (by decide +kernel), fr_w hfc (by decide +kernel)⟩

def wm_X12_whyNotTake : List Cond := .code yX12_whyNotTake cX12_whyNotTake 4 (some .int) :: ((([.fieldLink RX12 86 "TalePlayModel" "seen" "[Z", .fieldLink RX12 155 "TalePlayModel" "player" "I", .methodLink RX12 352 yX12_isUpFrom, .instanceMethod yX12_isUpFrom, .selects RX12 yX12_isUpFrom yX12_isUpFrom, .initialized RX12, .code yX12_isUpFrom cX12_isUpFrom 4 (some .boolean), .fieldLink RX12 50 "TalePlayModel" "nForm" "[I", .fieldLink RX12 53 "TalePlayModel" "nAt" "[I", .methodLink RX12 355 yX12_holds, .instanceMethod yX12_holds, .selects RX12 yX12_holds yX12_holds, .code yX12_holds cX12_holds 2 (some .boolean), .methodLink RX12 194 yX12_isGoods, .instanceMethod yX12_isGoods, .selects RX12 yX12_isGoods yX12_isGoods] : List Cond) ++ (([.code yX12_isGoods cX12_isGoods 2 (some .boolean), .methodLink RX12 188 yX12_isMovable, .instanceMethod yX12_isMovable, .selects RX12 yX12_isMovable yX12_isMovable, .code yX12_isMovable cX12_isMovable 2 (some .boolean), .methodLink RX12 184 yX12_isOf, .instanceMethod yX12_isOf, .selects RX12 yX12_isOf yX12_isOf, .code yX12_isOf cX12_isOf 4 (some .boolean), .fieldLink RX12 19 "TalePlayModel" "kindOf" "[I", .fieldLink RX12 13 "TalePlayModel" "parentOf" "[I", .methodLink RX12 256 yX12_saidFlag, .instanceMethod yX12_saidFlag, .selects RX12 yX12_saidFlag yX12_saidFlag, .code yX12_saidFlag cX12_saidFlag 4 (some .int), .methodLink RX12 216 yX12_saidSo] : List Cond) ++ (([.instanceMethod yX12_saidSo, .selects RX12 yX12_saidSo yX12_saidSo, .code yX12_saidSo cX12_saidSo 6 (some .int), .fieldLink RX12 202 "TalePlayModel" "sentences" "I", .fieldLink RX12 37 "TalePlayModel" "isSaid" "[Z", .fieldLink RX12 25 "TalePlayModel" "form" "[I", .fieldLink RX12 28 "TalePlayModel" "left" "[I", .fieldLink RX12 31 "TalePlayModel" "middle" "[I", .fieldLink RX12 34 "TalePlayModel" "right" "[I", .fieldLink RX12 16 "TalePlayModel" "defaults" "[I", .fieldLink RX12 89 "TalePlayModel" "reached" "[Z", .methodLink RX12 315 yX12_bulkOf, .instanceMethod yX12_bulkOf, .selects RX12 yX12_bulkOf yX12_bulkOf, .code yX12_bulkOf cX12_bulkOf 6 (some .int), .methodLink RX12 306 yX12_beginBulk] : List Cond) ++ (([.instanceMethod yX12_beginBulk, .selects RX12 yX12_beginBulk yX12_beginBulk, .code yX12_beginBulk cX12_beginBulk 3 (some .int), .fieldLink RX12 80 "TalePlayModel" "pile" "[I", .fieldLink RX12 83 "TalePlayModel" "nextIn" "[I", .methodLink RX12 300 yX12_body, .instanceMethod yX12_body, .selects RX12 yX12_body yX12_body, .code yX12_body cX12_body 2 none, .fieldLink RX12 294 "TalePlayModel" "traces" "Z", .fieldLink RX12 297 "TalePlayModel" "traced" "I", .fieldLink RX12 77 "TalePlayModel" "trace" "[I", .fieldLink RX12 22 "TalePlayModel" "sizeOf" "[I", .fieldLink RX12 177 "TalePlayModel" "objects" "I", .methodLink RX12 309 yX12_formNow, .instanceMethod yX12_formNow] : List Cond) ++ ([.selects RX12 yX12_formNow yX12_formNow, .code yX12_formNow cX12_formNow 3 (some .int), .methodLink RX12 208 yX12_placing, .instanceMethod yX12_placing, .selects RX12 yX12_placing yX12_placing, .code yX12_placing cX12_placing 3 (some .int), .methodLink RX12 312 yX12_atNow, .instanceMethod yX12_atNow, .selects RX12 yX12_atNow yX12_atNow, .code yX12_atNow cX12_atNow 3 (some .int), .fieldLink RX12 303 "TalePlayModel" "isNought" "Z"] : List Cond))))) ++ wsX120)
set_option maxRecDepth 20000 in
theorem gm_X12_whyNotTake_X12_isUpFrom : GoodIn wm_X12_whyNotTake (wsV RX12 352 RX12 yX12_isUpFrom wm_X12_isUpFrom) := goodIn_w (List.forall_mem_append.mpr ⟨List.forall_mem_cons.mpr ⟨List.mem_cons_of_mem _ (List.mem_append_left _ (List.mem_append_left _ (List.mem_of_getElem? (i := 2) rfl))), List.forall_mem_cons.mpr ⟨List.mem_cons_of_mem _ (List.mem_append_left _ (List.mem_append_left _ (List.mem_of_getElem? (i := 3) rfl))), List.forall_mem_cons.mpr ⟨List.mem_cons_of_mem _ (List.mem_append_left _ (List.mem_append_left _ (List.mem_of_getElem? (i := 4) rfl))), List.forall_mem_cons.mpr ⟨List.mem_cons_of_mem _ (List.mem_append_left _ (List.mem_append_left _ (List.mem_of_getElem? (i := 5) rfl))), (fun _ h => absurd h List.not_mem_nil)⟩⟩⟩⟩, List.forall_mem_cons.mpr ⟨List.mem_cons_of_mem _ (List.mem_append_left _ (List.mem_append_left _ (List.mem_of_getElem? (i := 6) rfl))), List.forall_mem_append.mpr ⟨List.forall_mem_cons.mpr ⟨List.mem_cons_of_mem _ (List.mem_append_left _ (List.mem_append_left _ (List.mem_of_getElem? (i := 7) rfl))), List.forall_mem_cons.mpr ⟨List.mem_cons_of_mem _ (List.mem_append_left _ (List.mem_append_left _ (List.mem_of_getElem? (i := 8) rfl))), (fun _ h => absurd h List.not_mem_nil)⟩⟩, (fun _ h => List.mem_cons_of_mem _ (List.mem_append_right _ h))⟩⟩⟩) (by decide +kernel)
set_option maxRecDepth 20000 in
theorem gm_X12_whyNotTake_X12_holds : GoodIn wm_X12_whyNotTake (wsV RX12 355 RX12 yX12_holds wm_X12_holds) := goodIn_w (List.forall_mem_append.mpr ⟨List.forall_mem_cons.mpr ⟨List.mem_cons_of_mem _ (List.mem_append_left _ (List.mem_append_left _ (List.mem_of_getElem? (i := 9) rfl))), List.forall_mem_cons.mpr ⟨List.mem_cons_of_mem _ (List.mem_append_left _ (List.mem_append_left _ (List.mem_of_getElem? (i := 10) rfl))), List.forall_mem_cons.mpr ⟨List.mem_cons_of_mem _ (List.mem_append_left _ (List.mem_append_left _ (List.mem_of_getElem? (i := 11) rfl))), List.forall_mem_cons.mpr ⟨List.mem_cons_of_mem _ (List.mem_append_left _ (List.mem_append_left _ (List.mem_of_getElem? (i := 5) rfl))), (fun _ h => absurd h List.not_mem_nil)⟩⟩⟩⟩, List.forall_mem_cons.mpr ⟨List.mem_cons_of_mem _ (List.mem_append_left _ (List.mem_append_left _ (List.mem_of_getElem? (i := 12) rfl))), List.forall_mem_append.mpr ⟨List.forall_mem_cons.mpr ⟨List.mem_cons_of_mem _ (List.mem_append_left _ (List.mem_append_left _ (List.mem_of_getElem? (i := 7) rfl))), List.forall_mem_cons.mpr ⟨List.mem_cons_of_mem _ (List.mem_append_left _ (List.mem_append_left _ (List.mem_of_getElem? (i := 8) rfl))), List.forall_mem_cons.mpr ⟨List.mem_cons_of_mem _ (List.mem_append_left _ (List.mem_append_left _ (List.mem_of_getElem? (i := 1) rfl))), (fun _ h => absurd h List.not_mem_nil)⟩⟩⟩, (fun _ h => List.mem_cons_of_mem _ (List.mem_append_right _ h))⟩⟩⟩) (by decide +kernel)
set_option maxRecDepth 20000 in
theorem gm_X12_whyNotTake_X12_isGoods : GoodIn wm_X12_whyNotTake (wsV RX12 194 RX12 yX12_isGoods wm_X12_isGoods) := goodIn_w (List.forall_mem_append.mpr ⟨List.forall_mem_cons.mpr ⟨List.mem_cons_of_mem _ (List.mem_append_left _ (List.mem_append_left _ (List.mem_of_getElem? (i := 13) rfl))), List.forall_mem_cons.mpr ⟨List.mem_cons_of_mem _ (List.mem_append_left _ (List.mem_append_left _ (List.mem_of_getElem? (i := 14) rfl))), List.forall_mem_cons.mpr ⟨List.mem_cons_of_mem _ (List.mem_append_left _ (List.mem_append_left _ (List.mem_of_getElem? (i := 15) rfl))), List.forall_mem_cons.mpr ⟨List.mem_cons_of_mem _ (List.mem_append_left _ (List.mem_append_left _ (List.mem_of_getElem? (i := 5) rfl))), (fun _ h => absurd h List.not_mem_nil)⟩⟩⟩⟩, List.forall_mem_cons.mpr ⟨List.mem_cons_of_mem _ (List.mem_append_left _ (List.mem_append_right _ (List.mem_append_left _ (List.mem_of_getElem? (i := 0) rfl)))), List.forall_mem_append.mpr ⟨List.forall_mem_cons.mpr ⟨List.mem_cons_of_mem _ (List.mem_append_left _ (List.mem_append_right _ (List.mem_append_left _ (List.mem_of_getElem? (i := 1) rfl)))), List.forall_mem_cons.mpr ⟨List.mem_cons_of_mem _ (List.mem_append_left _ (List.mem_append_right _ (List.mem_append_left _ (List.mem_of_getElem? (i := 2) rfl)))), List.forall_mem_cons.mpr ⟨List.mem_cons_of_mem _ (List.mem_append_left _ (List.mem_append_right _ (List.mem_append_left _ (List.mem_of_getElem? (i := 3) rfl)))), List.forall_mem_cons.mpr ⟨List.mem_cons_of_mem _ (List.mem_append_left _ (List.mem_append_left _ (List.mem_of_getElem? (i := 5) rfl))), List.forall_mem_cons.mpr ⟨List.mem_cons_of_mem _ (List.mem_append_left _ (List.mem_append_right _ (List.mem_append_left _ (List.mem_of_getElem? (i := 4) rfl)))), List.forall_mem_cons.mpr ⟨List.mem_cons_of_mem _ (List.mem_append_left _ (List.mem_append_right _ (List.mem_append_left _ (List.mem_of_getElem? (i := 5) rfl)))), List.forall_mem_cons.mpr ⟨List.mem_cons_of_mem _ (List.mem_append_left _ (List.mem_append_right _ (List.mem_append_left _ (List.mem_of_getElem? (i := 6) rfl)))), List.forall_mem_cons.mpr ⟨List.mem_cons_of_mem _ (List.mem_append_left _ (List.mem_append_right _ (List.mem_append_left _ (List.mem_of_getElem? (i := 7) rfl)))), List.forall_mem_cons.mpr ⟨List.mem_cons_of_mem _ (List.mem_append_left _ (List.mem_append_right _ (List.mem_append_left _ (List.mem_of_getElem? (i := 8) rfl)))), List.forall_mem_cons.mpr ⟨List.mem_cons_of_mem _ (List.mem_append_left _ (List.mem_append_right _ (List.mem_append_left _ (List.mem_of_getElem? (i := 9) rfl)))), List.forall_mem_cons.mpr ⟨List.mem_cons_of_mem _ (List.mem_append_left _ (List.mem_append_right _ (List.mem_append_left _ (List.mem_of_getElem? (i := 10) rfl)))), (fun _ h => absurd h List.not_mem_nil)⟩⟩⟩⟩⟩⟩⟩⟩⟩⟩⟩, (fun _ h => List.mem_cons_of_mem _ (List.mem_append_right _ h))⟩⟩⟩) (by decide +kernel)
set_option maxRecDepth 20000 in
theorem gm_X12_whyNotTake_X12_saidFlag : GoodIn wm_X12_whyNotTake (wsV RX12 256 RX12 yX12_saidFlag wm_X12_saidFlag) := goodIn_w (List.forall_mem_append.mpr ⟨List.forall_mem_cons.mpr ⟨List.mem_cons_of_mem _ (List.mem_append_left _ (List.mem_append_right _ (List.mem_append_left _ (List.mem_of_getElem? (i := 11) rfl)))), List.forall_mem_cons.mpr ⟨List.mem_cons_of_mem _ (List.mem_append_left _ (List.mem_append_right _ (List.mem_append_left _ (List.mem_of_getElem? (i := 12) rfl)))), List.forall_mem_cons.mpr ⟨List.mem_cons_of_mem _ (List.mem_append_left _ (List.mem_append_right _ (List.mem_append_left _ (List.mem_of_getElem? (i := 13) rfl)))), List.forall_mem_cons.mpr ⟨List.mem_cons_of_mem _ (List.mem_append_left _ (List.mem_append_left _ (List.mem_of_getElem? (i := 5) rfl))), (fun _ h => absurd h List.not_mem_nil)⟩⟩⟩⟩, List.forall_mem_cons.mpr ⟨List.mem_cons_of_mem _ (List.mem_append_left _ (List.mem_append_right _ (List.mem_append_left _ (List.mem_of_getElem? (i := 14) rfl)))), List.forall_mem_append.mpr ⟨List.forall_mem_append.mpr ⟨List.forall_mem_cons.mpr ⟨List.mem_cons_of_mem _ (List.mem_append_left _ (List.mem_append_right _ (List.mem_append_left _ (List.mem_of_getElem? (i := 15) rfl)))), List.forall_mem_cons.mpr ⟨List.mem_cons_of_mem _ (List.mem_append_left _ (List.mem_append_right _ (List.mem_append_right _ (List.mem_append_left _ (List.mem_of_getElem? (i := 0) rfl))))), List.forall_mem_cons.mpr ⟨List.mem_cons_of_mem _ (List.mem_append_left _ (List.mem_append_right _ (List.mem_append_right _ (List.mem_append_left _ (List.mem_of_getElem? (i := 1) rfl))))), List.forall_mem_cons.mpr ⟨List.mem_cons_of_mem _ (List.mem_append_left _ (List.mem_append_left _ (List.mem_of_getElem? (i := 5) rfl))), List.forall_mem_cons.mpr ⟨List.mem_cons_of_mem _ (List.mem_append_left _ (List.mem_append_right _ (List.mem_append_right _ (List.mem_append_left _ (List.mem_of_getElem? (i := 2) rfl))))), List.forall_mem_cons.mpr ⟨List.mem_cons_of_mem _ (List.mem_append_left _ (List.mem_append_right _ (List.mem_append_right _ (List.mem_append_left _ (List.mem_of_getElem? (i := 3) rfl))))), List.forall_mem_cons.mpr ⟨List.mem_cons_of_mem _ (List.mem_append_left _ (List.mem_append_right _ (List.mem_append_right _ (List.mem_append_left _ (List.mem_of_getElem? (i := 4) rfl))))), List.forall_mem_cons.mpr ⟨List.mem_cons_of_mem _ (List.mem_append_left _ (List.mem_append_right _ (List.mem_append_right _ (List.mem_append_left _ (List.mem_of_getElem? (i := 5) rfl))))), List.forall_mem_cons.mpr ⟨List.mem_cons_of_mem _ (List.mem_append_left _ (List.mem_append_right _ (List.mem_append_right _ (List.mem_append_left _ (List.mem_of_getElem? (i := 6) rfl))))), List.forall_mem_cons.mpr ⟨List.mem_cons_of_mem _ (List.mem_append_left _ (List.mem_append_right _ (List.mem_append_right _ (List.mem_append_left _ (List.mem_of_getElem? (i := 7) rfl))))), List.forall_mem_cons.mpr ⟨List.mem_cons_of_mem _ (List.mem_append_left _ (List.mem_append_right _ (List.mem_append_right _ (List.mem_append_left _ (List.mem_of_getElem? (i := 8) rfl))))), List.forall_mem_cons.mpr ⟨List.mem_cons_of_mem _ (List.mem_append_left _ (List.mem_append_right _ (List.mem_append_left _ (List.mem_of_getElem? (i := 9) rfl)))), List.forall_mem_cons.mpr ⟨List.mem_cons_of_mem _ (List.mem_append_left _ (List.mem_append_right _ (List.mem_append_left _ (List.mem_of_getElem? (i := 5) rfl)))), List.forall_mem_cons.mpr ⟨List.mem_cons_of_mem _ (List.mem_append_left _ (List.mem_append_right _ (List.mem_append_left _ (List.mem_of_getElem? (i := 6) rfl)))), List.forall_mem_cons.mpr ⟨List.mem_cons_of_mem _ (List.mem_append_left _ (List.mem_append_right _ (List.mem_append_left _ (List.mem_of_getElem? (i := 7) rfl)))), List.forall_mem_cons.mpr ⟨List.mem_cons_of_mem _ (List.mem_append_left _ (List.mem_append_right _ (List.mem_append_left _ (List.mem_of_getElem? (i := 8) rfl)))), (fun _ h => absurd h List.not_mem_nil)⟩⟩⟩⟩⟩⟩⟩⟩⟩⟩⟩⟩⟩⟩⟩⟩, List.forall_mem_cons.mpr ⟨List.mem_cons_of_mem _ (List.mem_append_left _ (List.mem_append_right _ (List.mem_append_left _ (List.mem_of_getElem? (i := 10) rfl)))), List.forall_mem_cons.mpr ⟨List.mem_cons_of_mem _ (List.mem_append_left _ (List.mem_append_right _ (List.mem_append_right _ (List.mem_append_left _ (List.mem_of_getElem? (i := 9) rfl))))), (fun _ h => absurd h List.not_mem_nil)⟩⟩⟩, (fun _ h => List.mem_cons_of_mem _ (List.mem_append_right _ h))⟩⟩⟩) (by decide +kernel)
set_option maxRecDepth 20000 in
theorem gm_X12_whyNotTake_X12_bulkOf : GoodIn wm_X12_whyNotTake (wsV RX12 315 RX12 yX12_bulkOf wm_X12_bulkOf) := goodIn_w (List.forall_mem_append.mpr ⟨List.forall_mem_cons.mpr ⟨List.mem_cons_of_mem _ (List.mem_append_left _ (List.mem_append_right _ (List.mem_append_right _ (List.mem_append_left _ (List.mem_of_getElem? (i := 11) rfl))))), List.forall_mem_cons.mpr ⟨List.mem_cons_of_mem _ (List.mem_append_left _ (List.mem_append_right _ (List.mem_append_right _ (List.mem_append_left _ (List.mem_of_getElem? (i := 12) rfl))))), List.forall_mem_cons.mpr ⟨List.mem_cons_of_mem _ (List.mem_append_left _ (List.mem_append_right _ (List.mem_append_right _ (List.mem_append_left _ (List.mem_of_getElem? (i := 13) rfl))))), List.forall_mem_cons.mpr ⟨List.mem_cons_of_mem _ (List.mem_append_left _ (List.mem_append_left _ (List.mem_of_getElem? (i := 5) rfl))), (fun _ h => absurd h List.not_mem_nil)⟩⟩⟩⟩, List.forall_mem_cons.mpr ⟨List.mem_cons_of_mem _ (List.mem_append_left _ (List.mem_append_right _ (List.mem_append_right _ (List.mem_append_left _ (List.mem_of_getElem? (i := 14) rfl))))), List.forall_mem_append.mpr ⟨List.forall_mem_append.mpr ⟨List.forall_mem_cons.mpr ⟨List.mem_cons_of_mem _ (List.mem_append_left _ (List.mem_append_right _ (List.mem_append_left _ (List.mem_of_getElem? (i := 5) rfl)))), List.forall_mem_cons.mpr ⟨List.mem_cons_of_mem _ (List.mem_append_left _ (List.mem_append_right _ (List.mem_append_left _ (List.mem_of_getElem? (i := 6) rfl)))), List.forall_mem_cons.mpr ⟨List.mem_cons_of_mem _ (List.mem_append_left _ (List.mem_append_right _ (List.mem_append_left _ (List.mem_of_getElem? (i := 7) rfl)))), List.forall_mem_cons.mpr ⟨List.mem_cons_of_mem _ (List.mem_append_left _ (List.mem_append_left _ (List.mem_of_getElem? (i := 5) rfl))), List.forall_mem_cons.mpr ⟨List.mem_cons_of_mem _ (List.mem_append_left _ (List.mem_append_right _ (List.mem_append_left _ (List.mem_of_getElem? (i := 8) rfl)))), List.forall_mem_cons.mpr ⟨List.mem_cons_of_mem _ (List.mem_append_left _ (List.mem_append_right _ (List.mem_append_left _ (List.mem_of_getElem? (i := 9) rfl)))), List.forall_mem_cons.mpr ⟨List.mem_cons_of_mem _ (List.mem_append_left _ (List.mem_append_right _ (List.mem_append_left _ (List.mem_of_getElem? (i := 10) rfl)))), List.forall_mem_cons.mpr ⟨List.mem_cons_of_mem _ (List.mem_append_left _ (List.mem_append_right _ (List.mem_append_right _ (List.mem_append_left _ (List.mem_of_getElem? (i := 15) rfl))))), List.forall_mem_cons.mpr ⟨List.mem_cons_of_mem _ (List.mem_append_left _ (List.mem_append_right _ (List.mem_append_right _ (List.mem_append_right _ (List.mem_append_left _ (List.mem_of_getElem? (i := 0) rfl)))))), List.forall_mem_cons.mpr ⟨List.mem_cons_of_mem _ (List.mem_append_left _ (List.mem_append_right _ (List.mem_append_right _ (List.mem_append_right _ (List.mem_append_left _ (List.mem_of_getElem? (i := 1) rfl)))))), List.forall_mem_cons.mpr ⟨List.mem_cons_of_mem _ (List.mem_append_left _ (List.mem_append_right _ (List.mem_append_right _ (List.mem_append_right _ (List.mem_append_left _ (List.mem_of_getElem? (i := 2) rfl)))))), List.forall_mem_cons.mpr ⟨List.mem_cons_of_mem _ (List.mem_append_left _ (List.mem_append_right _ (List.mem_append_right _ (List.mem_append_right _ (List.mem_append_left _ (List.mem_of_getElem? (i := 3) rfl)))))), List.forall_mem_cons.mpr ⟨List.mem_cons_of_mem _ (List.mem_append_left _ (List.mem_append_right _ (List.mem_append_right _ (List.mem_append_right _ (List.mem_append_left _ (List.mem_of_getElem? (i := 4) rfl)))))), List.forall_mem_cons.mpr ⟨List.mem_cons_of_mem _ (List.mem_append_left _ (List.mem_append_right _ (List.mem_append_right _ (List.mem_append_right _ (List.mem_append_left _ (List.mem_of_getElem? (i := 5) rfl)))))), List.forall_mem_cons.mpr ⟨List.mem_cons_of_mem _ (List.mem_append_left _ (List.mem_append_right _ (List.mem_append_right _ (List.mem_append_right _ (List.mem_append_left _ (List.mem_of_getElem? (i := 6) rfl)))))), List.forall_mem_cons.mpr ⟨List.mem_cons_of_mem _ (List.mem_append_left _ (List.mem_append_right _ (List.mem_append_right _ (List.mem_append_right _ (List.mem_append_left _ (List.mem_of_getElem? (i := 7) rfl)))))), (fun _ h => absurd h List.not_mem_nil)⟩⟩⟩⟩⟩⟩⟩⟩⟩⟩⟩⟩⟩⟩⟩⟩, List.forall_mem_append.mpr ⟨List.forall_mem_cons.mpr ⟨List.mem_cons_of_mem _ (List.mem_append_left _ (List.mem_append_right _ (List.mem_append_right _ (List.mem_append_right _ (List.mem_append_left _ (List.mem_of_getElem? (i := 8) rfl)))))), List.forall_mem_cons.mpr ⟨List.mem_cons_of_mem _ (List.mem_append_left _ (List.mem_append_right _ (List.mem_append_right _ (List.mem_append_right _ (List.mem_append_left _ (List.mem_of_getElem? (i := 9) rfl)))))), List.forall_mem_cons.mpr ⟨List.mem_cons_of_mem _ (List.mem_append_left _ (List.mem_append_right _ (List.mem_append_right _ (List.mem_append_right _ (List.mem_append_left _ (List.mem_of_getElem? (i := 10) rfl)))))), List.forall_mem_cons.mpr ⟨List.mem_cons_of_mem _ (List.mem_append_left _ (List.mem_append_right _ (List.mem_append_right _ (List.mem_append_right _ (List.mem_append_left _ (List.mem_of_getElem? (i := 11) rfl)))))), List.forall_mem_cons.mpr ⟨List.mem_cons_of_mem _ (List.mem_append_left _ (List.mem_append_right _ (List.mem_append_right _ (List.mem_append_right _ (List.mem_append_left _ (List.mem_of_getElem? (i := 12) rfl)))))), List.forall_mem_cons.mpr ⟨List.mem_cons_of_mem _ (List.mem_append_left _ (List.mem_append_right _ (List.mem_append_right _ (List.mem_append_right _ (List.mem_append_left _ (List.mem_of_getElem? (i := 13) rfl)))))), List.forall_mem_cons.mpr ⟨List.mem_cons_of_mem _ (List.mem_append_left _ (List.mem_append_right _ (List.mem_append_right _ (List.mem_append_right _ (List.mem_append_left _ (List.mem_of_getElem? (i := 14) rfl)))))), List.forall_mem_cons.mpr ⟨List.mem_cons_of_mem _ (List.mem_append_left _ (List.mem_append_right _ (List.mem_append_right _ (List.mem_append_right _ (List.mem_append_left _ (List.mem_of_getElem? (i := 15) rfl)))))), List.forall_mem_cons.mpr ⟨List.mem_cons_of_mem _ (List.mem_append_left _ (List.mem_append_right _ (List.mem_append_right _ (List.mem_append_right _ (List.mem_append_right _ (List.mem_of_getElem? (i := 0) rfl)))))), List.forall_mem_cons.mpr ⟨List.mem_cons_of_mem _ (List.mem_append_left _ (List.mem_append_right _ (List.mem_append_right _ (List.mem_append_right _ (List.mem_append_right _ (List.mem_of_getElem? (i := 1) rfl)))))), List.forall_mem_cons.mpr ⟨List.mem_cons_of_mem _ (List.mem_append_left _ (List.mem_append_left _ (List.mem_of_getElem? (i := 1) rfl))), List.forall_mem_cons.mpr ⟨List.mem_cons_of_mem _ (List.mem_append_left _ (List.mem_append_right _ (List.mem_append_right _ (List.mem_append_right _ (List.mem_append_right _ (List.mem_of_getElem? (i := 2) rfl)))))), List.forall_mem_cons.mpr ⟨List.mem_cons_of_mem _ (List.mem_append_left _ (List.mem_append_right _ (List.mem_append_right _ (List.mem_append_right _ (List.mem_append_right _ (List.mem_of_getElem? (i := 3) rfl)))))), List.forall_mem_cons.mpr ⟨List.mem_cons_of_mem _ (List.mem_append_left _ (List.mem_append_right _ (List.mem_append_right _ (List.mem_append_right _ (List.mem_append_right _ (List.mem_of_getElem? (i := 4) rfl)))))), List.forall_mem_cons.mpr ⟨List.mem_cons_of_mem _ (List.mem_append_left _ (List.mem_append_right _ (List.mem_append_right _ (List.mem_append_right _ (List.mem_append_right _ (List.mem_of_getElem? (i := 5) rfl)))))), List.forall_mem_cons.mpr ⟨List.mem_cons_of_mem _ (List.mem_append_left _ (List.mem_append_right _ (List.mem_append_right _ (List.mem_append_left _ (List.mem_of_getElem? (i := 3) rfl))))), (fun _ h => absurd h List.not_mem_nil)⟩⟩⟩⟩⟩⟩⟩⟩⟩⟩⟩⟩⟩⟩⟩⟩, List.forall_mem_cons.mpr ⟨List.mem_cons_of_mem _ (List.mem_append_left _ (List.mem_append_right _ (List.mem_append_right _ (List.mem_append_left _ (List.mem_of_getElem? (i := 4) rfl))))), List.forall_mem_cons.mpr ⟨List.mem_cons_of_mem _ (List.mem_append_left _ (List.mem_append_right _ (List.mem_append_right _ (List.mem_append_left _ (List.mem_of_getElem? (i := 5) rfl))))), List.forall_mem_cons.mpr ⟨List.mem_cons_of_mem _ (List.mem_append_left _ (List.mem_append_right _ (List.mem_append_right _ (List.mem_append_left _ (List.mem_of_getElem? (i := 6) rfl))))), List.forall_mem_cons.mpr ⟨List.mem_cons_of_mem _ (List.mem_append_left _ (List.mem_append_left _ (List.mem_of_getElem? (i := 7) rfl))), List.forall_mem_cons.mpr ⟨List.mem_cons_of_mem _ (List.mem_append_left _ (List.mem_append_right _ (List.mem_append_right _ (List.mem_append_right _ (List.mem_append_right _ (List.mem_of_getElem? (i := 6) rfl)))))), List.forall_mem_cons.mpr ⟨List.mem_cons_of_mem _ (List.mem_append_left _ (List.mem_append_right _ (List.mem_append_right _ (List.mem_append_right _ (List.mem_append_right _ (List.mem_of_getElem? (i := 7) rfl)))))), List.forall_mem_cons.mpr ⟨List.mem_cons_of_mem _ (List.mem_append_left _ (List.mem_append_right _ (List.mem_append_right _ (List.mem_append_right _ (List.mem_append_right _ (List.mem_of_getElem? (i := 8) rfl)))))), List.forall_mem_cons.mpr ⟨List.mem_cons_of_mem _ (List.mem_append_left _ (List.mem_append_right _ (List.mem_append_right _ (List.mem_append_right _ (List.mem_append_right _ (List.mem_of_getElem? (i := 9) rfl)))))), List.forall_mem_cons.mpr ⟨List.mem_cons_of_mem _ (List.mem_append_left _ (List.mem_append_right _ (List.mem_append_right _ (List.mem_append_left _ (List.mem_of_getElem? (i := 7) rfl))))), List.forall_mem_cons.mpr ⟨List.mem_cons_of_mem _ (List.mem_append_left _ (List.mem_append_left _ (List.mem_of_getElem? (i := 8) rfl))), List.forall_mem_cons.mpr ⟨List.mem_cons_of_mem _ (List.mem_append_left _ (List.mem_append_right _ (List.mem_append_right _ (List.mem_append_right _ (List.mem_append_right _ (List.mem_of_getElem? (i := 10) rfl)))))), (fun _ h => absurd h List.not_mem_nil)⟩⟩⟩⟩⟩⟩⟩⟩⟩⟩⟩⟩⟩, (fun _ h => List.mem_cons_of_mem _ (List.mem_append_right _ h))⟩⟩⟩) (by decide +kernel)
set_option maxRecDepth 20000 in
theorem gm_X12_whyNotTake_X12_isOf : GoodIn wm_X12_whyNotTake (wsV RX12 184 RX12 yX12_isOf wm_X12_isOf) := goodIn_w (List.forall_mem_append.mpr ⟨List.forall_mem_cons.mpr ⟨List.mem_cons_of_mem _ (List.mem_append_left _ (List.mem_append_right _ (List.mem_append_left _ (List.mem_of_getElem? (i := 5) rfl)))), List.forall_mem_cons.mpr ⟨List.mem_cons_of_mem _ (List.mem_append_left _ (List.mem_append_right _ (List.mem_append_left _ (List.mem_of_getElem? (i := 6) rfl)))), List.forall_mem_cons.mpr ⟨List.mem_cons_of_mem _ (List.mem_append_left _ (List.mem_append_right _ (List.mem_append_left _ (List.mem_of_getElem? (i := 7) rfl)))), List.forall_mem_cons.mpr ⟨List.mem_cons_of_mem _ (List.mem_append_left _ (List.mem_append_left _ (List.mem_of_getElem? (i := 5) rfl))), (fun _ h => absurd h List.not_mem_nil)⟩⟩⟩⟩, List.forall_mem_cons.mpr ⟨List.mem_cons_of_mem _ (List.mem_append_left _ (List.mem_append_right _ (List.mem_append_left _ (List.mem_of_getElem? (i := 8) rfl)))), List.forall_mem_append.mpr ⟨List.forall_mem_cons.mpr ⟨List.mem_cons_of_mem _ (List.mem_append_left _ (List.mem_append_right _ (List.mem_append_left _ (List.mem_of_getElem? (i := 9) rfl)))), List.forall_mem_cons.mpr ⟨List.mem_cons_of_mem _ (List.mem_append_left _ (List.mem_append_right _ (List.mem_append_left _ (List.mem_of_getElem? (i := 10) rfl)))), (fun _ h => absurd h List.not_mem_nil)⟩⟩, (fun _ h => List.mem_cons_of_mem _ (List.mem_append_right _ h))⟩⟩⟩) (by decide +kernel)
set_option maxHeartbeats 4000000 in
set_option maxRecDepth 100000 in
theorem s_X12_whyNotTake (l : Launch) (D : va_G) (sz : Nat) (o : Nat) (a : Nat → Nat) (t : Nat → ClassId) (i : Nat → Int32) (q : Int64) (c : Nat → Nat → Int32) (d : Nat → Nat → Int64) (w : Int32) (hI : mInv i c) (hw : 0 ≤ w.toInt ∧ w.toInt < (i 5).toInt) (hs_T : TI (i 5).toInt (fun z => Kd (c 3) (c 6) z 0) (i 22).toInt (c 23) (c 24)) (hs_G : Acy (gF (c 9) (c 10) (c 11) (c 13) (c 23) (c 24) (i 8).toInt (i 5).toInt (i 22).toInt)) : Met l yX12_whyNotTake wm_X12_whyNotTake ({ frames := 3, cells := 0, slots := 0, locals := 70 }) (va_Pc [.ref o, .int w] (pB D sz (mW o a t i q c d) (mT t))) (va_Qi (fun (r : Int32) (u : MS) => ((0 ≤ r.toInt ∧ r.toInt ≤ 10) ∧ (Im (r.toInt = 0) (¬ w.toInt = (i 22).toInt ∧ ¬ Ch (nF (i 5).toInt (c 23) (c 24)) (nF (i 5).toInt (c 23) (c 24) (i 22).toInt) w.toInt ∧ Kd (c 3) (c 6) w.toInt 1))) ∧ mInv u.1 u.2.2.1 ∧ (∀ k, k ∉ ([35, 36] : List Nat) → u.1 k = i k) ∧ (∀ k, k ∉ ([34, 38, 39] : List Nat) → u.2.2.1 k = c k)) (oC D (va_A (mW o a t i q c d) sz) (fun u : MS => mW o a t u.1 u.2.1 u.2.2.1 u.2.2.2) (fun _ => [])) (va_A (mW o a t i q c d) sz)) 0 0 (va_A (mW o a t i q c d) sz) := by
  refine Met.ofW (cc := cX12_whyNotTake) (maxL := 4) (ret := (some .int)) (by decide +kernel) rfl ?_
  intro p e s m args below meth cd s₁ B hml hv
  obtain ⟨rfl, hsz, hP, hK, hD0⟩ := hv
  have hx := B.exec
  have hb := B.bytes
  have hr := B.returns
  have hts := atoms_spec (ws := wm_X12_whyNotTake) B.pre
  have hown : s.vm.findClass RX12 = some m.cls := findClass_of_methodNamed B.named
  have hlocks := B.notSynchronized
  subst hsz
  have hD := hD0.self (sz := s.heap.size)
  generalize hAe : va_A (mW o a t i q c d) s.heap.size = A at hD ⊢
  have hA : ∀ q : Nat, s.heap.size ≤ q → A q := fun q h => by rw [← hAe]; exact Or.inr h
  have hS : va_S A s.heap s.heap [] := va_S.rf
  have hfi : ∀ k, k ∉ ([] : List Nat) → i k = i k := fun _ _ => rfl
  have hfc : ∀ k, k ∉ ([] : List Nat) → c k = c k := fun _ _ => rfl
  have hl := lv_entry ([.ref o, .int w]) (n := 4) (Nat.le_of_ble_eq_true rfl)
  rw [lg_entry_eq]
  generalize (lg_sl ([.ref o, .int w]) ++ List.replicate (4 - (lg_sl ([.ref o, .int w])).length) Slot.unset).toArray = ls at hl ⊢
  have hl : lv_has ls 4 [(0, .ref o), (1, .int w)] := hl
  have rb5_i : 0 ≤ (i 5).toInt ∧ (i 5).toInt ≤ 30 := hI.1 5
  have rb22_i : (i 22).toInt = -9 ∨ (0 ≤ (i 22).toInt ∧ (i 22).toInt ≤ 29) := hI.1 22
  have hTt := hs_T
  obtain ⟨⟨hp0, hp1, hp2⟩, hT2, hT3, ⟨rk, hrk⟩, rr, hq0, hq1, hq2, hq3⟩ := hTt
  have hsp : Sp (nF (i 5).toInt (c 23) (c 24)) := nF_Sp (by omega) hT2
  have hpl := TI_p hs_T
  have hpa : 0 ≤ (c 24 (i 22).toNatClampNeg).toInt ∧ (c 24 (i 22).toNatClampNeg).toInt < (i 5).toInt := hT2 _ hp0 hp1 hpl
  refine lv_aload_n hx hb dX12_whyNotTake_0 rfl (lv_at hl 0 rfl) ?_
  refine mget_43 hx hb hts (fun _ h => List.mem_cons_of_mem _ (List.mem_append_right _ h)) hown hK hP (hts (.fieldLink RX12 86 "TalePlayModel" "seen" "[Z") (List.mem_cons_of_mem _ (List.mem_append_left _ (List.mem_append_left _ (List.mem_of_getElem? (i := 0) rfl))))) dX12_whyNotTake_1 ?_
  refine lv_iload_n hx hb dX12_whyNotTake_4 rfl (lv_at hl 1 rfl) ?_
  refine mld_43 hx hb hK hP (vp_in_iff.mpr (by have h9 : w.toInt = w.toInt := rfl; omega)) dX12_whyNotTake_5 (fun x1 ex1 => ?_)
  have rx1 : 0 ≤ x1.toInt ∧ x1.toInt ≤ 1 := by rw [ex1]; exact hI.2 43 _
  refine lv_if_ne (tgt := 11) hx hb dX12_whyNotTake_6 (by decide +kernel) (fun c2 => ?_) (fun c2 => ?_)
  · have f2 := mt (ti_eq (a := x1.toInt) (b := 0) rfl (by decide +kernel)).mpr c2
    refine lv_iload_n hx hb dX12_whyNotTake_11 rfl (lv_at hl 1 rfl) ?_
    refine lv_aload_n hx hb dX12_whyNotTake_12 rfl (lv_at hl 0 rfl) ?_
    refine mget_22 (v := (i 22)) rfl hx hb hts (fun _ h => List.mem_cons_of_mem _ (List.mem_append_right _ h)) hown hK hP (hts (.fieldLink RX12 155 "TalePlayModel" "player" "I") (List.mem_cons_of_mem _ (List.mem_append_left _ (List.mem_append_left _ (List.mem_of_getElem? (i := 1) rfl))))) dX12_whyNotTake_13 ?_
    refine lv_icmp_eq (tgt := 31) hx hb dX12_whyNotTake_16 (by decide +kernel) (fun c3 => ?_) (fun c3 => ?_)
    · have f3 := (ti_eq (a := w.toInt) (b := (i 22).toInt) rfl rfl).mp c3
      refine lv_iconst (v := 5) hx hb dX12_whyNotTake_31 (by decide +kernel) ?_
      exact rw_iret (i, q, c, d) hx hb hr hlocks hS (hK.sub (tys' := []) [] rfl) hP hD dX12_whyNotTake_32 ⟨⟨(show 0 ≤ (5 : Int32).toInt ∧ (5 : Int32).toInt ≤ 10 from by decide +kernel), (show Im ((5 : Int32).toInt = 0) (¬ w.toInt = (i 22).toInt ∧ ¬ Ch (nF (i 5).toInt (c 23) (c 24)) (nF (i 5).toInt (c 23) (c 24) (i 22).toInt) w.toInt ∧ Kd (c 3) (c 6) w.toInt 1) from fun h9 => absurd h9 (by decide +kernel))⟩, hI, fr_w hfi (by decide +kernel), fr_w hfc (by decide +kernel)⟩
    · have f3 := mt (ti_eq (a := w.toInt) (b := (i 22).toInt) rfl rfl).mpr c3
      refine lv_aload_n hx hb dX12_whyNotTake_19 rfl (lv_at hl 0 rfl) ?_
      refine lv_iload_n hx hb dX12_whyNotTake_20 rfl (lv_at hl 1 rfl) ?_
      refine lv_aload_n hx hb dX12_whyNotTake_21 rfl (lv_at hl 0 rfl) ?_
      refine mget_22 (v := (i 22)) rfl hx hb hts (fun _ h => List.mem_cons_of_mem _ (List.mem_append_right _ h)) hown hK hP (hts (.fieldLink RX12 155 "TalePlayModel" "player" "I") (List.mem_cons_of_mem _ (List.mem_append_left _ (List.mem_append_left _ (List.mem_of_getElem? (i := 1) rfl))))) dX12_whyNotTake_22 ?_
      refine ro_calli (va_runV (As := [.int w, .int (i 22)]) (rest := []) ⟨hx, hb, hml, hown, hts⟩ (s_X12_isUpFrom l D s.heap.size o a t i q c d w (i 22) hI (show 0 ≤ w.toInt ∧ w.toInt < ((i 5) : Int32).toInt from by omega) (show 0 ≤ (i 22).toInt ∧ (i 22).toInt < ((i 5) : Int32).toInt from by omega) hs_T) (cwV 2 hts gm_X12_whyNotTake_X12_isUpFrom rfl rfl rfl (by decide +kernel) ⟨Nat.le_of_ble_eq_true rfl, Nat.le_of_ble_eq_true rfl⟩) (pA_V hK hP (ci := 12) (q0 := 0) rfl rfl) rfl rfl hl.1 rfl (lv_room (Nat.le_of_ble_eq_true rfl)) dX12_whyNotTake_25 ⟨Nat.le_of_ble_eq_true rfl, Nat.le_of_ble_eq_true rfl⟩) hS hA hP (fun r4 u4 H locs hw4 hP hS => ?_)
      have hw4 : ((0 ≤ r4.toInt ∧ r4.toInt ≤ 1) ∧ (Im (r4.toInt = 0) (¬ Ch (nF (i 5).toInt (c 23) (c 24)) (nF (i 5).toInt (c 23) (c 24) (i 22).toInt) w.toInt))) := hw4
      obtain ⟨hw4, hr4_0⟩ := hw4
      have hr4_0 : Im (r4.toInt = 0) (¬ Ch (nF (i 5).toInt (c 23) (c 24)) (nF (i 5).toInt (c 23) (c 24) (i 22).toInt) w.toInt) := hr4_0
      refine lv_if_eq (tgt := 33) hx hb dX12_whyNotTake_28 (by decide +kernel) (fun c5 => ?_) (fun c5 => ?_)
      · have f5 := (ti_eq (a := r4.toInt) (b := 0) rfl (by decide +kernel)).mp c5
        have hUp := hr4_0
        refine lv_aload_n hx hb dX12_whyNotTake_33 rfl (lv_at hl 0 rfl) ?_
        refine lv_iload_n hx hb dX12_whyNotTake_34 rfl (lv_at hl 1 rfl) ?_
        refine ro_calli (va_runV (As := [.int w]) (rest := []) ⟨hx, hb, hml, hown, hts⟩ (s_X12_holds l D H.size o a t i q c d w hI (show 0 ≤ w.toInt ∧ w.toInt ≤ 29 from by omega)) (cwV 1 hts gm_X12_whyNotTake_X12_holds rfl rfl rfl (by decide +kernel) ⟨Nat.le_of_ble_eq_true rfl, Nat.le_of_ble_eq_true rfl⟩) (pA_V hK hP (ci := 12) (q0 := 0) rfl rfl) rfl rfl hl.1 rfl (lv_room (Nat.le_of_ble_eq_true rfl)) dX12_whyNotTake_35 ⟨Nat.le_of_ble_eq_true rfl, Nat.le_of_ble_eq_true rfl⟩) hS hA hP (fun r6 u6 H locs hw6 hP hS => ?_)
        have hw6 : ((0 ≤ r6.toInt ∧ r6.toInt ≤ 1) ∧ (Im (r6.toInt = 1) ((c 23 w.toNatClampNeg).toInt = 2 ∧ (c 24 w.toNatClampNeg).toInt = (i 22).toInt))) := hw6
        obtain ⟨hw6, hr6_0⟩ := hw6
        have hr6_0 : Im (r6.toInt = 1) ((c 23 w.toNatClampNeg).toInt = 2 ∧ (c 24 w.toNatClampNeg).toInt = (i 22).toInt) := hr6_0
        refine lv_if_eq (tgt := 44) hx hb dX12_whyNotTake_38 (by decide +kernel) (fun c7 => ?_) (fun c7 => ?_)
        · have f7 := (ti_eq (a := r6.toInt) (b := 0) rfl (by decide +kernel)).mp c7
          refine lv_aload_n hx hb dX12_whyNotTake_44 rfl (lv_at hl 0 rfl) ?_
          refine lv_iload_n hx hb dX12_whyNotTake_45 rfl (lv_at hl 1 rfl) ?_
          refine ro_calli (va_runV (As := [.int w]) (rest := []) ⟨hx, hb, hml, hown, hts⟩ (s_X12_isGoods l D H.size o a t i q c d w hI (show 0 ≤ w.toInt ∧ w.toInt ≤ 29 from by omega)) (cwV 1 hts gm_X12_whyNotTake_X12_isGoods rfl rfl rfl (by decide +kernel) ⟨Nat.le_of_ble_eq_true rfl, Nat.le_of_ble_eq_true rfl⟩) (pA_V hK hP (ci := 12) (q0 := 0) rfl rfl) rfl rfl hl.1 rfl (lv_room (Nat.le_of_ble_eq_true rfl)) dX12_whyNotTake_46 ⟨Nat.le_of_ble_eq_true rfl, Nat.le_of_ble_eq_true rfl⟩) hS hA hP (fun r8 u8 H locs hw8 hP hS => ?_)
          have hw8 : ((0 ≤ r8.toInt ∧ r8.toInt ≤ 1) ∧ (Im (r8.toInt = 1) (Kd (c 3) (c 6) w.toInt 1))) := hw8
          obtain ⟨hw8, hr8_0⟩ := hw8
          have hr8_0 : Im (r8.toInt = 1) (Kd (c 3) (c 6) w.toInt 1) := hr8_0
          refine lv_if_eq (tgt := 72) hx hb dX12_whyNotTake_49 (by decide +kernel) (fun c9 => ?_) (fun c9 => ?_)
          · have f9 := (ti_eq (a := r8.toInt) (b := 0) rfl (by decide +kernel)).mp c9
            refine lv_bipush (v := 7) hx hb dX12_whyNotTake_72 (by decide +kernel) ?_
            exact rw_iret (i, q, c, d) hx hb hr hlocks hS (hK.sub (tys' := []) [] rfl) hP hD dX12_whyNotTake_74 ⟨⟨(show 0 ≤ (7 : Int32).toInt ∧ (7 : Int32).toInt ≤ 10 from by decide +kernel), (show Im ((7 : Int32).toInt = 0) (¬ w.toInt = (i 22).toInt ∧ ¬ Ch (nF (i 5).toInt (c 23) (c 24)) (nF (i 5).toInt (c 23) (c 24) (i 22).toInt) w.toInt ∧ Kd (c 3) (c 6) w.toInt 1) from fun h9 => absurd h9 (by decide +kernel))⟩, hI, fr_w hfi (by decide +kernel), fr_w hfc (by decide +kernel)⟩
          · have f9 := mt (ti_eq (a := r8.toInt) (b := 0) rfl (by decide +kernel)).mpr c9
            have hGd := hr8_0
            refine lv_aload_n hx hb dX12_whyNotTake_52 rfl (lv_at hl 0 rfl) ?_
            refine lv_iload_n hx hb dX12_whyNotTake_53 rfl (lv_at hl 1 rfl) ?_
            refine lv_iconst (v := 3) hx hb dX12_whyNotTake_54 (by decide +kernel) ?_
            refine ro_calli (va_runV (As := [.int w, .int 3]) (rest := []) ⟨hx, hb, hml, hown, hts⟩ (s_X12_saidFlag l D H.size o a t i q c d w 3 hI (show 0 ≤ w.toInt ∧ w.toInt ≤ 29 from by have h91 : (3 : Int32).toInt = 3 := (by decide +kernel); omega) (show 0 ≤ 3 ∧ 3 ≤ 5 from by decide +kernel)) (cwV 2 hts gm_X12_whyNotTake_X12_saidFlag rfl rfl rfl (by decide +kernel) ⟨Nat.le_of_ble_eq_true rfl, Nat.le_of_ble_eq_true rfl⟩) (pA_V hK hP (ci := 12) (q0 := 0) rfl rfl) rfl rfl hl.1 rfl (lv_room (Nat.le_of_ble_eq_true rfl)) dX12_whyNotTake_55 ⟨Nat.le_of_ble_eq_true rfl, Nat.le_of_ble_eq_true rfl⟩) hS hA hP (fun r10 u10 H locs hw10 hP hS => ?_)
            have hw10 : (r10.toInt = -9 ∨ (0 ≤ r10.toInt ∧ r10.toInt ≤ 1)) := hw10
            refine lv_iconst (v := 1) hx hb dX12_whyNotTake_58 (by decide +kernel) ?_
            refine lv_icmp_eq (tgt := 72) hx hb dX12_whyNotTake_59 (by decide +kernel) (fun c11 => ?_) (fun c11 => ?_)
            · have f11 := (ti_eq (a := r10.toInt) (b := 1) rfl (by decide +kernel)).mp c11
              refine lv_bipush (v := 7) hx hb dX12_whyNotTake_72 (by decide +kernel) ?_
              exact rw_iret (i, q, c, d) hx hb hr hlocks hS (hK.sub (tys' := []) [] rfl) hP hD dX12_whyNotTake_74 ⟨⟨(show 0 ≤ (7 : Int32).toInt ∧ (7 : Int32).toInt ≤ 10 from by decide +kernel), (show Im ((7 : Int32).toInt = 0) (¬ w.toInt = (i 22).toInt ∧ ¬ Ch (nF (i 5).toInt (c 23) (c 24)) (nF (i 5).toInt (c 23) (c 24) (i 22).toInt) w.toInt ∧ Kd (c 3) (c 6) w.toInt 1) from fun h9 => absurd h9 (by decide +kernel))⟩, hI, fr_w hfi (by decide +kernel), fr_w hfc (by decide +kernel)⟩
            · have f11 := mt (ti_eq (a := r10.toInt) (b := 1) rfl (by decide +kernel)).mpr c11
              refine lv_aload_n hx hb dX12_whyNotTake_62 rfl (lv_at hl 0 rfl) ?_
              refine mget_23 hx hb hts (fun _ h => List.mem_cons_of_mem _ (List.mem_append_right _ h)) hown hK hP (hts (.fieldLink RX12 50 "TalePlayModel" "nForm" "[I") (List.mem_cons_of_mem _ (List.mem_append_left _ (List.mem_append_left _ (List.mem_of_getElem? (i := 7) rfl))))) dX12_whyNotTake_63 ?_
              refine lv_iload_n hx hb dX12_whyNotTake_66 rfl (lv_at hl 1 rfl) ?_
              refine mld_23 hx hb hK hP (vp_in_iff.mpr (by have h9 : w.toInt = w.toInt := rfl; omega)) dX12_whyNotTake_67 (fun x12 ex12 => ?_)
              have rx12 : x12.toInt = -9 ∨ (0 ≤ x12.toInt ∧ x12.toInt ≤ 4) := by rw [ex12]; exact hI.2 23 _
              refine lv_iconst (v := 4) hx hb dX12_whyNotTake_68 (by decide +kernel) ?_
              refine lv_icmp_ne (tgt := 75) hx hb dX12_whyNotTake_69 (by decide +kernel) (fun c13 => ?_) (fun c13 => ?_)
              · have f13 := mt (ti_eq (a := x12.toInt) (b := 4) rfl (by decide +kernel)).mpr c13
                refine lv_aload_n hx hb dX12_whyNotTake_75 rfl (lv_at hl 0 rfl) ?_
                refine mget_44 hx hb hts (fun _ h => List.mem_cons_of_mem _ (List.mem_append_right _ h)) hown hK hP (hts (.fieldLink RX12 89 "TalePlayModel" "reached" "[Z") (List.mem_cons_of_mem _ (List.mem_append_left _ (List.mem_append_right _ (List.mem_append_right _ (List.mem_append_left _ (List.mem_of_getElem? (i := 10) rfl))))))) dX12_whyNotTake_76 ?_
                refine lv_iload_n hx hb dX12_whyNotTake_79 rfl (lv_at hl 1 rfl) ?_
                refine mld_44 hx hb hK hP (vp_in_iff.mpr (by have h9 : w.toInt = w.toInt := rfl; omega)) dX12_whyNotTake_80 (fun x14 ex14 => ?_)
                have rx14 : 0 ≤ x14.toInt ∧ x14.toInt ≤ 1 := by rw [ex14]; exact hI.2 44 _
                refine lv_if_ne (tgt := 87) hx hb dX12_whyNotTake_81 (by decide +kernel) (fun c15 => ?_) (fun c15 => ?_)
                · have f15 := mt (ti_eq (a := x14.toInt) (b := 0) rfl (by decide +kernel)).mpr c15
                  refine lv_iload_n hx hb dX12_whyNotTake_87 rfl (lv_at hl 1 rfl) ?_
                  refine lv_istore_n (lv' := [(2, .int w), (0, .ref o), (1, .int w)]) hx hb dX12_whyNotTake_88 rfl hl (by decide +kernel) rfl (fun ls hl => ?_)
                  have lp16 : ∀ (fu : Nat) (y16_2 : Int32), (0 ≤ y16_2.toInt ∧ y16_2.toInt ≤ 29) → (y16_2.toInt < (i 5).toInt) → rk y16_2.toInt < fu → ∀ (H : Heap) (locs : List Loc) (ls : Array Slot), va_P D vwCl (mW o a t i q c d) H → va_D A (mW o a t i q c d) → va_S A s.heap H locs → lv_has ls 4 [(2, .int y16_2), (0, .ref o), (1, .int w)] → W p l e (headSpec wm_X12_whyNotTake ({ frames := 3, cells := 0, slots := 0, locals := 70 })).room s m ([.ref o, .int w] : List Value).toArray below meth cd H locs 0 0 (MQ below (va_Qi (fun (r : Int32) (u : MS) => ((0 ≤ r.toInt ∧ r.toInt ≤ 10) ∧ (Im (r.toInt = 0) (¬ w.toInt = (i 22).toInt ∧ ¬ Ch (nF (i 5).toInt (c 23) (c 24)) (nF (i 5).toInt (c 23) (c 24) (i 22).toInt) w.toInt ∧ Kd (c 3) (c 6) w.toInt 1))) ∧ mInv u.1 u.2.2.1 ∧ (∀ k, k ∉ ([35, 36] : List Nat) → u.1 k = i k) ∧ (∀ k, k ∉ ([34, 38, 39] : List Nat) → u.2.2.1 k = c k)) (oC D A (fun u : MS => mW o a t u.1 u.2.1 u.2.2.1 u.2.2.2) (fun _ => [])) A) ([.ref o, .int w] : List Value).toArray s 0 0 A) (F0 m 89 ls []) := by
                    intro fu
                    induction fu with
                    | zero => intro y16_2 hy16_2 hz16_0 hm; exact absurd hm (Nat.not_lt_zero _)
                    | succ fu ih =>
                      intro y16_2 hy16_2 hz16_0 hm H locs ls hP hD hS hl
                      have ih16 := ih
                      refine lv_aload_n hx hb dX12_whyNotTake_89 rfl (lv_at hl 1 rfl) ?_
                      refine mget_23 hx hb hts (fun _ h => List.mem_cons_of_mem _ (List.mem_append_right _ h)) hown hK hP (hts (.fieldLink RX12 50 "TalePlayModel" "nForm" "[I") (List.mem_cons_of_mem _ (List.mem_append_left _ (List.mem_append_left _ (List.mem_of_getElem? (i := 7) rfl))))) dX12_whyNotTake_90 ?_
                      refine lv_iload_n hx hb dX12_whyNotTake_93 rfl (lv_at hl 0 rfl) ?_
                      refine mld_23 hx hb hK hP (vp_in_iff.mpr (by have h9 : y16_2.toInt = y16_2.toInt := rfl; omega)) dX12_whyNotTake_94 (fun x17 ex17 => ?_)
                      have rx17 : x17.toInt = -9 ∨ (0 ≤ x17.toInt ∧ x17.toInt ≤ 4) := by rw [ex17]; exact hI.2 23 _
                      refine lv_bipush (v := (-9)) hx hb dX12_whyNotTake_95 (by decide +kernel) ?_
                      refine lv_icmp_eq (tgt := 140) hx hb dX12_whyNotTake_97 (by decide +kernel) (fun c18 => ?_) (fun c18 => ?_)
                      · have f18 := (ti_eq (a := x17.toInt) (b := (-9)) rfl (by decide +kernel)).mp c18
                        refine lv_aload_n hx hb dX12_whyNotTake_140 rfl (lv_at hl 1 rfl) ?_
                        refine lv_iload_n hx hb dX12_whyNotTake_141 rfl (lv_at hl 2 rfl) ?_
                        have rb8_i : 0 ≤ (i 8).toInt ∧ (i 8).toInt ≤ 200 := hI.1 8
                        refine al_calli (va_runV (As := [.int w]) (rest := []) ⟨hx, hb, hml, hown, hts⟩ (s_X12_bulkOf l D H.size o a t i q c d w hI (show 0 ≤ w.toInt ∧ w.toInt ≤ 29 from by omega) hs_G) (cwV 1 hts gm_X12_whyNotTake_X12_bulkOf rfl rfl rfl (by decide +kernel) ⟨Nat.le_of_ble_eq_true rfl, Nat.le_of_ble_eq_true rfl⟩) (pB_V hK hP hD (ci := 12) (q0 := 0) rfl rfl) rfl rfl hl.1 rfl (lv_room (Nat.le_of_ble_eq_true rfl)) dX12_whyNotTake_142 ⟨Nat.le_of_ble_eq_true rfl, Nat.le_of_ble_eq_true rfl⟩) hS hA hP hD (fun r19 u19 H locs hw19 hP hD hS => ?_)
                        obtain ⟨i19, q19, c19, d19⟩ := u19
                        have hw19 : True ∧ mInv i19 c19 ∧ (∀ k, k ∉ ([35, 36] : List Nat) → i19 k = i k) ∧ (∀ k, k ∉ ([34, 38, 39] : List Nat) → c19 k = c k) := hw19
                        obtain ⟨hw19, hI, hei19, hec19⟩ := hw19
                        have hfi : ∀ k, k ∉ ([35, 36] : List Nat) → i19 k = i k := fr_z hfi hei19 (by decide +kernel) (by decide +kernel)
                        have hfc : ∀ k, k ∉ ([34, 38, 39] : List Nat) → c19 k = c k := fr_z hfc hec19 (by decide +kernel) (by decide +kernel)
                        have hP : va_P D vwCl (mW o a t i19 q19 c19 d19) H := hP
                        have hD : va_D A (mW o a t i19 q19 c19 d19) := hD
                        refine lv_istore_n (lv' := [(2, .int r19), (0, .ref o), (1, .int w)]) hx hb dX12_whyNotTake_145 rfl hl (by decide +kernel) rfl (fun ls hl => ?_)
                        refine lv_iconst (v := 0) hx hb dX12_whyNotTake_146 (by decide +kernel) ?_
                        refine lv_istore_n (lv' := [(3, .int 0), (2, .int r19), (0, .ref o), (1, .int w)]) hx hb dX12_whyNotTake_147 rfl hl (by decide +kernel) rfl (fun ls hl => ?_)
                        have lp20 : ∀ (fu : Nat) (i20 : Nat → Int32) (q20 : Int64) (c20 : Nat → Nat → Int32) (d20 : Nat → Nat → Int64) (y20_3 : Int32) (y20_2 : Int32), mInv i20 c20 → (∀ k, k ∉ ([35, 36] : List Nat) → i20 k = i k) → (∀ k, k ∉ ([34, 38, 39] : List Nat) → c20 k = c k) → (0 ≤ y20_3.toInt ∧ y20_3.toInt ≤ 30) → (30 - y20_3.toInt).toNat < fu → ∀ (H : Heap) (locs : List Loc) (ls : Array Slot), va_P D vwCl (mW o a t i20 q20 c20 d20) H → va_D A (mW o a t i20 q20 c20 d20) → va_S A s.heap H locs → lv_has ls 4 [(3, .int y20_3), (2, .int y20_2), (0, .ref o), (1, .int w)] → W p l e (headSpec wm_X12_whyNotTake ({ frames := 3, cells := 0, slots := 0, locals := 70 })).room s m ([.ref o, .int w] : List Value).toArray below meth cd H locs 0 0 (MQ below (va_Qi (fun (r : Int32) (u : MS) => ((0 ≤ r.toInt ∧ r.toInt ≤ 10) ∧ (Im (r.toInt = 0) (¬ w.toInt = (i 22).toInt ∧ ¬ Ch (nF (i 5).toInt (c 23) (c 24)) (nF (i 5).toInt (c 23) (c 24) (i 22).toInt) w.toInt ∧ Kd (c 3) (c 6) w.toInt 1))) ∧ mInv u.1 u.2.2.1 ∧ (∀ k, k ∉ ([35, 36] : List Nat) → u.1 k = i k) ∧ (∀ k, k ∉ ([34, 38, 39] : List Nat) → u.2.2.1 k = c k)) (oC D A (fun u : MS => mW o a t u.1 u.2.1 u.2.2.1 u.2.2.2) (fun _ => [])) A) ([.ref o, .int w] : List Value).toArray s 0 0 A) (F0 m 148 ls []) := by
                          intro fu
                          induction fu with
                          | zero => intro i20 q20 c20 d20 y20_3 y20_2 hI hfi hfc hy20_3 hm; exact absurd hm (Nat.not_lt_zero _)
                          | succ fu ih =>
                            intro i20 q20 c20 d20 y20_3 y20_2 hI hfi hfc hy20_3 hm H locs ls hP hD hS hl
                            have ih20 := ih
                            refine lv_iload_n hx hb dX12_whyNotTake_148 rfl (lv_at hl 0 rfl) ?_
                            refine lv_aload_n hx hb dX12_whyNotTake_149 rfl (lv_at hl 2 rfl) ?_
                            refine mget_5 (v := (i20 5)) rfl hx hb hts (fun _ h => List.mem_cons_of_mem _ (List.mem_append_right _ h)) hown hK hP (hts (.fieldLink RX12 177 "TalePlayModel" "objects" "I") (List.mem_cons_of_mem _ (List.mem_append_left _ (List.mem_append_right _ (List.mem_append_right _ (List.mem_append_right _ (List.mem_append_left _ (List.mem_of_getElem? (i := 13) rfl)))))))) dX12_whyNotTake_150 ?_
                            have rb5_i20 : 0 ≤ (i20 5).toInt ∧ (i20 5).toInt ≤ 30 := hI.1 5
                            have re5_i20 : (i20 5).toInt = (i 5).toInt := congrArg Int32.toInt (hfi 5 (by decide +kernel))
                            refine lv_icmp_ge (tgt := 182) hx hb dX12_whyNotTake_153 (by decide +kernel) (fun c21 => ?_) (fun c21 => ?_)
                            · have f21 := (ti_le (a := (i20 5).toInt) (b := y20_3.toInt) rfl rfl).mp c21
                              refine lv_iload_n hx hb dX12_whyNotTake_182 rfl (lv_at hl 1 rfl) ?_
                              refine lv_bipush (v := 100) hx hb dX12_whyNotTake_183 (by decide +kernel) ?_
                              refine lv_icmp_le (tgt := 193) hx hb dX12_whyNotTake_185 (by decide +kernel) (fun c22 => ?_) (fun c22 => ?_)
                              · have f22 := (ti_le (a := y20_2.toInt) (b := 100) rfl (by decide +kernel)).mp c22
                                refine lv_iconst (v := 0) hx hb dX12_whyNotTake_193 (by decide +kernel) ?_
                                exact rw_iret (i20, q20, c20, d20) hx hb hr hlocks hS (hK.sub (tys' := []) [] rfl) hP hD dX12_whyNotTake_194 ⟨⟨(show 0 ≤ (0 : Int32).toInt ∧ (0 : Int32).toInt ≤ 10 from by decide +kernel), (show Im ((0 : Int32).toInt = 0) (¬ w.toInt = (i 22).toInt ∧ ¬ Ch (nF (i 5).toInt (c 23) (c 24)) (nF (i 5).toInt (c 23) (c 24) (i 22).toInt) w.toInt ∧ Kd (c 3) (c 6) w.toInt 1) from fun _ => ⟨by omega, hUp (by omega), hGd (by omega)⟩)⟩, hI, fr_w hfi (by decide +kernel), fr_w hfc (by decide +kernel)⟩
                              · have f22 := mt (ti_le (a := y20_2.toInt) (b := 100) rfl (by decide +kernel)).mpr c22
                                refine lv_bipush (v := 10) hx hb dX12_whyNotTake_188 (by decide +kernel) ?_
                                refine lv_goto (tgt := 194) hx hb dX12_whyNotTake_190 (by decide +kernel) ?_
                                exact rw_iret (i20, q20, c20, d20) hx hb hr hlocks hS (hK.sub (tys' := []) [] rfl) hP hD dX12_whyNotTake_194 ⟨⟨(show 0 ≤ (10 : Int32).toInt ∧ (10 : Int32).toInt ≤ 10 from by decide +kernel), (show Im ((10 : Int32).toInt = 0) (¬ w.toInt = (i 22).toInt ∧ ¬ Ch (nF (i 5).toInt (c 23) (c 24)) (nF (i 5).toInt (c 23) (c 24) (i 22).toInt) w.toInt ∧ Kd (c 3) (c 6) w.toInt 1) from fun h9 => absurd h9 (by decide +kernel))⟩, hI, fr_w hfi (by decide +kernel), fr_w hfc (by decide +kernel)⟩
                            · have f21 := mt (ti_le (a := (i20 5).toInt) (b := y20_3.toInt) rfl rfl).mpr c21
                              refine lv_iload_n hx hb dX12_whyNotTake_156 rfl (lv_at hl 1 rfl) ?_
                              refine lv_aload_n hx hb dX12_whyNotTake_157 rfl (lv_at hl 2 rfl) ?_
                              refine lv_iload_n hx hb dX12_whyNotTake_158 rfl (lv_at hl 0 rfl) ?_
                              have rb22_i20 : (i20 22).toInt = -9 ∨ (0 ≤ (i20 22).toInt ∧ (i20 22).toInt ≤ 29) := hI.1 22
                              have re22_i20 : (i20 22).toInt = (i 22).toInt := congrArg Int32.toInt (hfi 22 (by decide +kernel))
                              refine ro_calli (va_runV (As := [.int y20_3]) (rest := [.int y20_2]) ⟨hx, hb, hml, hown, hts⟩ (s_X12_holds l D H.size o a t i20 q20 c20 d20 y20_3 hI (show 0 ≤ y20_3.toInt ∧ y20_3.toInt ≤ 29 from by omega)) (cwV 1 hts gm_X12_whyNotTake_X12_holds rfl rfl rfl (by decide +kernel) ⟨Nat.le_of_ble_eq_true rfl, Nat.le_of_ble_eq_true rfl⟩) (pA_V hK hP (ci := 12) (q0 := 0) rfl rfl) rfl rfl hl.1 rfl (lv_room (Nat.le_of_ble_eq_true rfl)) dX12_whyNotTake_159 ⟨Nat.le_of_ble_eq_true rfl, Nat.le_of_ble_eq_true rfl⟩) hS hA hP (fun r23 u23 H locs hw23 hP hS => ?_)
                              have hw23 : ((0 ≤ r23.toInt ∧ r23.toInt ≤ 1) ∧ (Im (r23.toInt = 1) ((c20 23 y20_3.toNatClampNeg).toInt = 2 ∧ (c20 24 y20_3.toNatClampNeg).toInt = (i20 22).toInt))) := hw23
                              obtain ⟨hw23, hr23_0⟩ := hw23
                              have hr23_0 : Im (r23.toInt = 1) ((c 23 y20_3.toNatClampNeg).toInt = 2 ∧ (c 24 y20_3.toNatClampNeg).toInt = (i 22).toInt) := by have h9 := hr23_0; rw [show c20 23 = c 23 from hfc 23 (by decide +kernel), show c20 24 = c 24 from hfc 24 (by decide +kernel), show i20 22 = i 22 from hfi 22 (by decide +kernel)] at h9; exact h9
                              have jn24 : ∀ (i24 : Nat → Int32) (q24 : Int64) (c24 : Nat → Nat → Int32) (d24 : Nat → Nat → Int64) (z24_0 : Int32), mInv i24 c24 → (∀ k, k ∉ ([35, 36] : List Nat) → i24 k = i k) → (∀ k, k ∉ ([34, 38, 39] : List Nat) → c24 k = c k) → ∀ (H : Heap) (locs : List Loc) (ls : Array Slot), va_P D vwCl (mW o a t i24 q24 c24 d24) H → va_D A (mW o a t i24 q24 c24 d24) → va_S A s.heap H locs → lv_has ls 4 [(3, .int y20_3), (2, .int y20_2), (0, .ref o), (1, .int w)] → W p l e (headSpec wm_X12_whyNotTake ({ frames := 3, cells := 0, slots := 0, locals := 70 })).room s m ([.ref o, .int w] : List Value).toArray below meth cd H locs 0 0 (MQ below (va_Qi (fun (r : Int32) (u : MS) => ((0 ≤ r.toInt ∧ r.toInt ≤ 10) ∧ (Im (r.toInt = 0) (¬ w.toInt = (i 22).toInt ∧ ¬ Ch (nF (i 5).toInt (c 23) (c 24)) (nF (i 5).toInt (c 23) (c 24) (i 22).toInt) w.toInt ∧ Kd (c 3) (c 6) w.toInt 1))) ∧ mInv u.1 u.2.2.1 ∧ (∀ k, k ∉ ([35, 36] : List Nat) → u.1 k = i k) ∧ (∀ k, k ∉ ([34, 38, 39] : List Nat) → u.2.2.1 k = c k)) (oC D A (fun u : MS => mW o a t u.1 u.2.1 u.2.2.1 u.2.2.2) (fun _ => [])) A) ([.ref o, .int w] : List Value).toArray s 0 0 A) (F0 m 174 ls [.int z24_0, .int y20_2]) := by
                                intro i24 q24 c24 d24 z24_0 hI hfi hfc H locs ls hP hD hS hl
                                refine lv_iadd hx hb dX12_whyNotTake_174 ?_
                                refine lv_topi (fun x25 ex25 => ?_)
                                refine lv_istore_n (lv' := [(2, .int x25), (3, .int y20_3), (0, .ref o), (1, .int w)]) hx hb dX12_whyNotTake_175 rfl hl (by decide +kernel) rfl (fun ls hl => ?_)
                                obtain ⟨x26, ex26⟩ : ∃ y : Int32, y = y20_3 + 1 := ⟨_, rfl⟩
                                have tx26 := ti_add (a := y20_3.toInt) (b := 1) ex26 rfl (by decide +kernel) (by omega) (by omega)
                                refine lv_iinc (v := x26) (lv' := [(3, .int x26), (2, .int x25), (0, .ref o), (1, .int w)]) hx hb dX12_whyNotTake_176 hl (k := 1) rfl (by rw [ex26]; rfl) (by decide +kernel) rfl (fun ls hl => ?_)
                                refine lv_goto (tgt := 148) hx hb dX12_whyNotTake_179 (by decide +kernel) ?_
                                exact ih20 i24 q24 c24 d24 x26 x25 hI (fr_w hfi (by decide +kernel)) (fr_w hfc (by decide +kernel)) (show 0 ≤ x26.toInt ∧ x26.toInt ≤ 30 from by have h50 : x26.toInt = (y20_3.toInt + 1) := tx26; omega) (by have h50 : x26.toInt = (y20_3.toInt + 1) := tx26; omega) _ _ _ hP hD hS (lv_sub hl [0, 1, 2, 3] rfl)
                              refine lv_if_eq (tgt := 173) hx hb dX12_whyNotTake_162 (by decide +kernel) (fun c27 => ?_) (fun c27 => ?_)
                              · have f27 := (ti_eq (a := r23.toInt) (b := 0) rfl (by decide +kernel)).mp c27
                                refine lv_iconst (v := 0) hx hb dX12_whyNotTake_173 (by decide +kernel) ?_
                                exact jn24 i20 q20 c20 d20  (0 : Int32) hI (fr_w hfi (by decide +kernel)) (fr_w hfc (by decide +kernel)) _ _ _ hP hD hS (lv_sub hl [0, 1, 2, 3] rfl)
                              · have f27 := mt (ti_eq (a := r23.toInt) (b := 0) rfl (by decide +kernel)).mpr c27
                                refine lv_aload_n hx hb dX12_whyNotTake_165 rfl (lv_at hl 2 rfl) ?_
                                refine lv_iload_n hx hb dX12_whyNotTake_166 rfl (lv_at hl 0 rfl) ?_
                                have rb8_i20 : 0 ≤ (i20 8).toInt ∧ (i20 8).toInt ≤ 200 := hI.1 8
                                have re8_i20 : (i20 8).toInt = (i 8).toInt := congrArg Int32.toInt (hfi 8 (by decide +kernel))
                                refine al_calli (va_runV (As := [.int y20_3]) (rest := [.int y20_2]) ⟨hx, hb, hml, hown, hts⟩ (s_X12_bulkOf l D H.size o a t i20 q20 c20 d20 y20_3 hI (show 0 ≤ y20_3.toInt ∧ y20_3.toInt ≤ 29 from by omega) (by rw [show c20 9 = c 9 from hfc 9 (by decide +kernel), show c20 10 = c 10 from hfc 10 (by decide +kernel), show c20 11 = c 11 from hfc 11 (by decide +kernel), show c20 13 = c 13 from hfc 13 (by decide +kernel), show c20 23 = c 23 from hfc 23 (by decide +kernel), show c20 24 = c 24 from hfc 24 (by decide +kernel), show i20 5 = i 5 from hfi 5 (by decide +kernel), show i20 8 = i 8 from hfi 8 (by decide +kernel), show i20 22 = i 22 from hfi 22 (by decide +kernel)]; exact hs_G)) (cwV 1 hts gm_X12_whyNotTake_X12_bulkOf rfl rfl rfl (by decide +kernel) ⟨Nat.le_of_ble_eq_true rfl, Nat.le_of_ble_eq_true rfl⟩) (pB_V hK hP hD (ci := 12) (q0 := 0) rfl rfl) rfl rfl hl.1 rfl (lv_room (Nat.le_of_ble_eq_true rfl)) dX12_whyNotTake_167 ⟨Nat.le_of_ble_eq_true rfl, Nat.le_of_ble_eq_true rfl⟩) hS hA hP hD (fun r28 u28 H locs hw28 hP hD hS => ?_)
                                obtain ⟨i28, q28, c28, d28⟩ := u28
                                have hw28 : True ∧ mInv i28 c28 ∧ (∀ k, k ∉ ([35, 36] : List Nat) → i28 k = i20 k) ∧ (∀ k, k ∉ ([34, 38, 39] : List Nat) → c28 k = c20 k) := hw28
                                obtain ⟨hw28, hI, hei28, hec28⟩ := hw28
                                have hfi : ∀ k, k ∉ ([35, 36] : List Nat) → i28 k = i k := fr_z hfi hei28 (by decide +kernel) (by decide +kernel)
                                have hfc : ∀ k, k ∉ ([34, 38, 39] : List Nat) → c28 k = c k := fr_z hfc hec28 (by decide +kernel) (by decide +kernel)
                                have hP : va_P D vwCl (mW o a t i28 q28 c28 d28) H := hP
                                have hD : va_D A (mW o a t i28 q28 c28 d28) := hD
                                refine lv_goto (tgt := 174) hx hb dX12_whyNotTake_170 (by decide +kernel) ?_
                                exact jn24 i28 q28 c28 d28  r28 hI (fr_w hfi (by decide +kernel)) (fr_w hfc (by decide +kernel)) _ _ _ hP hD hS (lv_sub hl [0, 1, 2, 3] rfl)
                        exact lp20 _ i19 q19 c19 d19 (0 : Int32) r19 hI (fr_w hfi (by decide +kernel)) (fr_w hfc (by decide +kernel)) (show 0 ≤ (0 : Int32).toInt ∧ (0 : Int32).toInt ≤ 30 from by decide +kernel) (Nat.lt_succ_self _) _ _ _ hP hD hS (lv_sub hl [0, 1, 2, 3] rfl)
                      · have f18 := mt (ti_eq (a := x17.toInt) (b := (-9)) rfl (by decide +kernel)).mpr c18
                        refine lv_aload_n hx hb dX12_whyNotTake_100 rfl (lv_at hl 1 rfl) ?_
                        refine lv_aload_n hx hb dX12_whyNotTake_101 rfl (lv_at hl 1 rfl) ?_
                        refine mget_24 hx hb hts (fun _ h => List.mem_cons_of_mem _ (List.mem_append_right _ h)) hown hK hP (hts (.fieldLink RX12 53 "TalePlayModel" "nAt" "[I") (List.mem_cons_of_mem _ (List.mem_append_left _ (List.mem_append_left _ (List.mem_of_getElem? (i := 8) rfl))))) dX12_whyNotTake_102 ?_
                        refine lv_iload_n hx hb dX12_whyNotTake_105 rfl (lv_at hl 0 rfl) ?_
                        refine mld_24 hx hb hK hP (vp_in_iff.mpr (by have h9 : y16_2.toInt = y16_2.toInt := rfl; omega)) dX12_whyNotTake_106 (fun x29 ex29 => ?_)
                        have rx29 : x29.toInt = -9 ∨ (0 ≤ x29.toInt ∧ x29.toInt ≤ 29) := by rw [ex29]; exact hI.2 24 _
                        obtain ⟨hnb, haxb, hbxb⟩ := T_st hT2 (y := y16_2) (by omega) ex17 (by omega) ex29
                        have hkb := hrk.2 y16_2.toInt (by omega) (by omega) (by rw [hnb]; omega)
                        rw [hnb] at hkb
                        refine lv_iconst (v := 5) hx hb dX12_whyNotTake_107 (by decide +kernel) ?_
                        refine ro_calli (va_runV (As := [.int x29, .int 5]) (rest := []) ⟨hx, hb, hml, hown, hts⟩ (s_X12_isOf l D H.size o a t i q c d x29 5 hI (show 0 ≤ x29.toInt ∧ x29.toInt ≤ 29 from by have h91 : (5 : Int32).toInt = 5 := (by decide +kernel); omega) (show 0 ≤ 5 from by decide +kernel)) (cwV 2 hts gm_X12_whyNotTake_X12_isOf rfl rfl rfl (by decide +kernel) ⟨Nat.le_of_ble_eq_true rfl, Nat.le_of_ble_eq_true rfl⟩) (pA_V hK hP (ci := 12) (q0 := 0) rfl rfl) rfl rfl hl.1 rfl (lv_room (Nat.le_of_ble_eq_true rfl)) dX12_whyNotTake_108 ⟨Nat.le_of_ble_eq_true rfl, Nat.le_of_ble_eq_true rfl⟩) hS hA hP (fun r30 u30 H locs hw30 hP hS => ?_)
                        have hw30 : ((0 ≤ r30.toInt ∧ r30.toInt ≤ 1) ∧ (Sm r30 (Kd (c 3) (c 6) x29.toInt 5))) := hw30
                        obtain ⟨hw30, hr30_0⟩ := hw30
                        have hr30_0 : Sm r30 (Kd (c 3) (c 6) x29.toInt 5) := hr30_0
                        have jn31 : ∀ (H : Heap) (locs : List Loc) (ls : Array Slot), va_P D vwCl (mW o a t i q c d) H → va_D A (mW o a t i q c d) → va_S A s.heap H locs → lv_has ls 4 [(2, .int y16_2), (0, .ref o), (1, .int w)] → W p l e (headSpec wm_X12_whyNotTake ({ frames := 3, cells := 0, slots := 0, locals := 70 })).room s m ([.ref o, .int w] : List Value).toArray below meth cd H locs 0 0 (MQ below (va_Qi (fun (r : Int32) (u : MS) => ((0 ≤ r.toInt ∧ r.toInt ≤ 10) ∧ (Im (r.toInt = 0) (¬ w.toInt = (i 22).toInt ∧ ¬ Ch (nF (i 5).toInt (c 23) (c 24)) (nF (i 5).toInt (c 23) (c 24) (i 22).toInt) w.toInt ∧ Kd (c 3) (c 6) w.toInt 1))) ∧ mInv u.1 u.2.2.1 ∧ (∀ k, k ∉ ([35, 36] : List Nat) → u.1 k = i k) ∧ (∀ k, k ∉ ([34, 38, 39] : List Nat) → u.2.2.1 k = c k)) (oC D A (fun u : MS => mW o a t u.1 u.2.1 u.2.2.1 u.2.2.2) (fun _ => [])) A) ([.ref o, .int w] : List Value).toArray s 0 0 A) (F0 m 130 ls []) := by
                          intro H locs ls hP hD hS hl
                          refine lv_aload_n hx hb dX12_whyNotTake_130 rfl (lv_at hl 1 rfl) ?_
                          refine mget_24 hx hb hts (fun _ h => List.mem_cons_of_mem _ (List.mem_append_right _ h)) hown hK hP (hts (.fieldLink RX12 53 "TalePlayModel" "nAt" "[I") (List.mem_cons_of_mem _ (List.mem_append_left _ (List.mem_append_left _ (List.mem_of_getElem? (i := 8) rfl))))) dX12_whyNotTake_131 ?_
                          refine lv_iload_n hx hb dX12_whyNotTake_134 rfl (lv_at hl 0 rfl) ?_
                          refine mld_24 hx hb hK hP (vp_in_iff.mpr (by have h9 : y16_2.toInt = y16_2.toInt := rfl; omega)) dX12_whyNotTake_135 (fun x32 ex32 => ?_)
                          have rx32 : x32.toInt = -9 ∨ (0 ≤ x32.toInt ∧ x32.toInt ≤ 29) := by rw [ex32]; exact hI.2 24 _
                          obtain ⟨hn, hax, hbx⟩ := T_st hT2 (y := y16_2) (by omega) ex17 (by omega) ex32
                          have hk := hrk.2 y16_2.toInt (by omega) (by omega) (by rw [hn]; omega)
                          rw [hn] at hk
                          refine lv_istore_n (lv' := [(2, .int x32), (0, .ref o), (1, .int w)]) hx hb dX12_whyNotTake_136 rfl hl (by decide +kernel) rfl (fun ls hl => ?_)
                          refine lv_goto (tgt := 89) hx hb dX12_whyNotTake_137 (by decide +kernel) ?_
                          exact ih16 x32 (show 0 ≤ x32.toInt ∧ x32.toInt ≤ 29 from by omega) (show x32.toInt < (i 5).toInt from by omega) (by omega) _ _ _ hP hD hS (lv_sub hl [0, 1, 2] rfl)
                        refine lv_if_eq (tgt := 130) hx hb dX12_whyNotTake_111 (by decide +kernel) (fun c33 => ?_) (fun c33 => ?_)
                        · have f33 := (ti_eq (a := r30.toInt) (b := 0) rfl (by decide +kernel)).mp c33
                          have s33 := sm_f hr30_0 c33
                          exact jn31    _ _ _ hP hD hS (lv_sub hl [0, 1, 2] rfl)
                        · have f33 := mt (ti_eq (a := r30.toInt) (b := 0) rfl (by decide +kernel)).mpr c33
                          have s33 := sm_t hr30_0 c33
                          refine lv_aload_n hx hb dX12_whyNotTake_114 rfl (lv_at hl 1 rfl) ?_
                          refine mget_24 hx hb hts (fun _ h => List.mem_cons_of_mem _ (List.mem_append_right _ h)) hown hK hP (hts (.fieldLink RX12 53 "TalePlayModel" "nAt" "[I") (List.mem_cons_of_mem _ (List.mem_append_left _ (List.mem_append_left _ (List.mem_of_getElem? (i := 8) rfl))))) dX12_whyNotTake_115 ?_
                          refine lv_iload_n hx hb dX12_whyNotTake_118 rfl (lv_at hl 0 rfl) ?_
                          refine mld_24 hx hb hK hP (vp_in_iff.mpr (by have h9 : y16_2.toInt = y16_2.toInt := rfl; omega)) dX12_whyNotTake_119 (fun x34 ex34 => ?_)
                          have rx34 : x34.toInt = -9 ∨ (0 ≤ x34.toInt ∧ x34.toInt ≤ 29) := by rw [ex34]; exact hI.2 24 _
                          refine lv_aload_n hx hb dX12_whyNotTake_120 rfl (lv_at hl 1 rfl) ?_
                          refine mget_22 (v := (i 22)) rfl hx hb hts (fun _ h => List.mem_cons_of_mem _ (List.mem_append_right _ h)) hown hK hP (hts (.fieldLink RX12 155 "TalePlayModel" "player" "I") (List.mem_cons_of_mem _ (List.mem_append_left _ (List.mem_append_left _ (List.mem_of_getElem? (i := 1) rfl))))) dX12_whyNotTake_121 ?_
                          refine lv_icmp_eq (tgt := 130) hx hb dX12_whyNotTake_124 (by decide +kernel) (fun c35 => ?_) (fun c35 => ?_)
                          · have f35 := (ti_eq (a := x34.toInt) (b := (i 22).toInt) rfl rfl).mp c35
                            exact jn31    _ _ _ hP hD hS (lv_sub hl [0, 1, 2] rfl)
                          · have f35 := mt (ti_eq (a := x34.toInt) (b := (i 22).toInt) rfl rfl).mpr c35
                            refine lv_bipush (v := 9) hx hb dX12_whyNotTake_127 (by decide +kernel) ?_
                            exact rw_iret (i, q, c, d) hx hb hr hlocks hS (hK.sub (tys' := []) [] rfl) hP hD dX12_whyNotTake_129 ⟨⟨(show 0 ≤ (9 : Int32).toInt ∧ (9 : Int32).toInt ≤ 10 from by decide +kernel), (show Im ((9 : Int32).toInt = 0) (¬ w.toInt = (i 22).toInt ∧ ¬ Ch (nF (i 5).toInt (c 23) (c 24)) (nF (i 5).toInt (c 23) (c 24) (i 22).toInt) w.toInt ∧ Kd (c 3) (c 6) w.toInt 1) from fun h9 => absurd h9 (by decide +kernel))⟩, hI, fr_w hfi (by decide +kernel), fr_w hfc (by decide +kernel)⟩
                  exact lp16 _ w (show 0 ≤ w.toInt ∧ w.toInt ≤ 29 from by omega) (show w.toInt < (i 5).toInt from by omega) (Nat.lt_succ_self _) _ _ _ hP hD hS (lv_sub hl [0, 1, 2] rfl)
                · have f15 := (ti_eq (a := x14.toInt) (b := 0) rfl (by decide +kernel)).mp c15
                  refine lv_bipush (v := 8) hx hb dX12_whyNotTake_84 (by decide +kernel) ?_
                  exact rw_iret (i, q, c, d) hx hb hr hlocks hS (hK.sub (tys' := []) [] rfl) hP hD dX12_whyNotTake_86 ⟨⟨(show 0 ≤ (8 : Int32).toInt ∧ (8 : Int32).toInt ≤ 10 from by decide +kernel), (show Im ((8 : Int32).toInt = 0) (¬ w.toInt = (i 22).toInt ∧ ¬ Ch (nF (i 5).toInt (c 23) (c 24)) (nF (i 5).toInt (c 23) (c 24) (i 22).toInt) w.toInt ∧ Kd (c 3) (c 6) w.toInt 1) from fun h9 => absurd h9 (by decide +kernel))⟩, hI, fr_w hfi (by decide +kernel), fr_w hfc (by decide +kernel)⟩
              · have f13 := (ti_eq (a := x12.toInt) (b := 4) rfl (by decide +kernel)).mp c13
                refine lv_bipush (v := 7) hx hb dX12_whyNotTake_72 (by decide +kernel) ?_
                exact rw_iret (i, q, c, d) hx hb hr hlocks hS (hK.sub (tys' := []) [] rfl) hP hD dX12_whyNotTake_74 ⟨⟨(show 0 ≤ (7 : Int32).toInt ∧ (7 : Int32).toInt ≤ 10 from by decide +kernel), (show Im ((7 : Int32).toInt = 0) (¬ w.toInt = (i 22).toInt ∧ ¬ Ch (nF (i 5).toInt (c 23) (c 24)) (nF (i 5).toInt (c 23) (c 24) (i 22).toInt) w.toInt ∧ Kd (c 3) (c 6) w.toInt 1) from fun h9 => absurd h9 (by decide +kernel))⟩, hI, fr_w hfi (by decide +kernel), fr_w hfc (by decide +kernel)⟩
        · have f7 := mt (ti_eq (a := r6.toInt) (b := 0) rfl (by decide +kernel)).mpr c7
          refine lv_bipush (v := 6) hx hb dX12_whyNotTake_41 (by decide +kernel) ?_
          exact rw_iret (i, q, c, d) hx hb hr hlocks hS (hK.sub (tys' := []) [] rfl) hP hD dX12_whyNotTake_43 ⟨⟨(show 0 ≤ (6 : Int32).toInt ∧ (6 : Int32).toInt ≤ 10 from by decide +kernel), (show Im ((6 : Int32).toInt = 0) (¬ w.toInt = (i 22).toInt ∧ ¬ Ch (nF (i 5).toInt (c 23) (c 24)) (nF (i 5).toInt (c 23) (c 24) (i 22).toInt) w.toInt ∧ Kd (c 3) (c 6) w.toInt 1) from fun h9 => absurd h9 (by decide +kernel))⟩, hI, fr_w hfi (by decide +kernel), fr_w hfc (by decide +kernel)⟩
      · have f5 := mt (ti_eq (a := r4.toInt) (b := 0) rfl (by decide +kernel)).mpr c5
        refine lv_iconst (v := 5) hx hb dX12_whyNotTake_31 (by decide +kernel) ?_
        exact rw_iret (i, q, c, d) hx hb hr hlocks hS (hK.sub (tys' := []) [] rfl) hP hD dX12_whyNotTake_32 ⟨⟨(show 0 ≤ (5 : Int32).toInt ∧ (5 : Int32).toInt ≤ 10 from by decide +kernel), (show Im ((5 : Int32).toInt = 0) (¬ w.toInt = (i 22).toInt ∧ ¬ Ch (nF (i 5).toInt (c 23) (c 24)) (nF (i 5).toInt (c 23) (c 24) (i 22).toInt) w.toInt ∧ Kd (c 3) (c 6) w.toInt 1) from fun h9 => absurd h9 (by decide +kernel))⟩, hI, fr_w hfi (by decide +kernel), fr_w hfc (by decide +kernel)⟩
  · have f2 := (ti_eq (a := x1.toInt) (b := 0) rfl (by decide +kernel)).mp c2
    refine lv_iconst (v := 4) hx hb dX12_whyNotTake_9 (by decide +kernel) ?_
    exact rw_iret (i, q, c, d) hx hb hr hlocks hS (hK.sub (tys' := []) [] rfl) hP hD dX12_whyNotTake_10 ⟨⟨(show 0 ≤ (4 : Int32).toInt ∧ (4 : Int32).toInt ≤ 10 from by decide +kernel), (show Im ((4 : Int32).toInt = 0) (¬ w.toInt = (i 22).toInt ∧ ¬ Ch (nF (i 5).toInt (c 23) (c 24)) (nF (i 5).toInt (c 23) (c 24) (i 22).toInt) w.toInt ∧ Kd (c 3) (c 6) w.toInt 1) from fun h9 => absurd h9 (by decide +kernel))⟩, hI, fr_w hfi (by decide +kernel), fr_w hfc (by decide +kernel)⟩

def wm_X12_whyNotPut : List Cond := .code yX12_whyNotPut cX12_whyNotPut 4 (some .int) :: ((([.methodLink RX12 355 yX12_holds, .instanceMethod yX12_holds, .selects RX12 yX12_holds yX12_holds, .initialized RX12, .code yX12_holds cX12_holds 2 (some .boolean), .fieldLink RX12 50 "TalePlayModel" "nForm" "[I", .fieldLink RX12 53 "TalePlayModel" "nAt" "[I", .fieldLink RX12 155 "TalePlayModel" "player" "I", .fieldLink RX12 86 "TalePlayModel" "seen" "[Z", .methodLink RX12 352 yX12_isUpFrom, .instanceMethod yX12_isUpFrom, .selects RX12 yX12_isUpFrom yX12_isUpFrom, .code yX12_isUpFrom cX12_isUpFrom 4 (some .boolean), .fieldLink RX12 89 "TalePlayModel" "reached" "[Z", .methodLink RX12 358 yX12_lying, .instanceMethod yX12_lying] : List Cond) ++ ([.selects RX12 yX12_lying yX12_lying, .code yX12_lying cX12_lying 5 (some .int), .fieldLink RX12 177 "TalePlayModel" "objects" "I", .fieldLink RX12 56 "TalePlayModel" "nOpen" "[Z", .methodLink RX12 184 yX12_isOf, .instanceMethod yX12_isOf, .selects RX12 yX12_isOf yX12_isOf, .code yX12_isOf cX12_isOf 4 (some .boolean), .fieldLink RX12 19 "TalePlayModel" "kindOf" "[I", .fieldLink RX12 13 "TalePlayModel" "parentOf" "[I", .fieldLink RX12 98 "TalePlayModel" "isBox" "[Z"] : List Cond)) ++ wsX120)
set_option maxRecDepth 20000 in
theorem gm_X12_whyNotPut_X12_holds : GoodIn wm_X12_whyNotPut (wsV RX12 355 RX12 yX12_holds wm_X12_holds) := goodIn_w (List.forall_mem_append.mpr ⟨List.forall_mem_cons.mpr ⟨List.mem_cons_of_mem _ (List.mem_append_left _ (List.mem_append_left _ (List.mem_of_getElem? (i := 0) rfl))), List.forall_mem_cons.mpr ⟨List.mem_cons_of_mem _ (List.mem_append_left _ (List.mem_append_left _ (List.mem_of_getElem? (i := 1) rfl))), List.forall_mem_cons.mpr ⟨List.mem_cons_of_mem _ (List.mem_append_left _ (List.mem_append_left _ (List.mem_of_getElem? (i := 2) rfl))), List.forall_mem_cons.mpr ⟨List.mem_cons_of_mem _ (List.mem_append_left _ (List.mem_append_left _ (List.mem_of_getElem? (i := 3) rfl))), (fun _ h => absurd h List.not_mem_nil)⟩⟩⟩⟩, List.forall_mem_cons.mpr ⟨List.mem_cons_of_mem _ (List.mem_append_left _ (List.mem_append_left _ (List.mem_of_getElem? (i := 4) rfl))), List.forall_mem_append.mpr ⟨List.forall_mem_cons.mpr ⟨List.mem_cons_of_mem _ (List.mem_append_left _ (List.mem_append_left _ (List.mem_of_getElem? (i := 5) rfl))), List.forall_mem_cons.mpr ⟨List.mem_cons_of_mem _ (List.mem_append_left _ (List.mem_append_left _ (List.mem_of_getElem? (i := 6) rfl))), List.forall_mem_cons.mpr ⟨List.mem_cons_of_mem _ (List.mem_append_left _ (List.mem_append_left _ (List.mem_of_getElem? (i := 7) rfl))), (fun _ h => absurd h List.not_mem_nil)⟩⟩⟩, (fun _ h => List.mem_cons_of_mem _ (List.mem_append_right _ h))⟩⟩⟩) (by decide +kernel)
set_option maxRecDepth 20000 in
theorem gm_X12_whyNotPut_X12_isUpFrom : GoodIn wm_X12_whyNotPut (wsV RX12 352 RX12 yX12_isUpFrom wm_X12_isUpFrom) := goodIn_w (List.forall_mem_append.mpr ⟨List.forall_mem_cons.mpr ⟨List.mem_cons_of_mem _ (List.mem_append_left _ (List.mem_append_left _ (List.mem_of_getElem? (i := 9) rfl))), List.forall_mem_cons.mpr ⟨List.mem_cons_of_mem _ (List.mem_append_left _ (List.mem_append_left _ (List.mem_of_getElem? (i := 10) rfl))), List.forall_mem_cons.mpr ⟨List.mem_cons_of_mem _ (List.mem_append_left _ (List.mem_append_left _ (List.mem_of_getElem? (i := 11) rfl))), List.forall_mem_cons.mpr ⟨List.mem_cons_of_mem _ (List.mem_append_left _ (List.mem_append_left _ (List.mem_of_getElem? (i := 3) rfl))), (fun _ h => absurd h List.not_mem_nil)⟩⟩⟩⟩, List.forall_mem_cons.mpr ⟨List.mem_cons_of_mem _ (List.mem_append_left _ (List.mem_append_left _ (List.mem_of_getElem? (i := 12) rfl))), List.forall_mem_append.mpr ⟨List.forall_mem_cons.mpr ⟨List.mem_cons_of_mem _ (List.mem_append_left _ (List.mem_append_left _ (List.mem_of_getElem? (i := 5) rfl))), List.forall_mem_cons.mpr ⟨List.mem_cons_of_mem _ (List.mem_append_left _ (List.mem_append_left _ (List.mem_of_getElem? (i := 6) rfl))), (fun _ h => absurd h List.not_mem_nil)⟩⟩, (fun _ h => List.mem_cons_of_mem _ (List.mem_append_right _ h))⟩⟩⟩) (by decide +kernel)
set_option maxRecDepth 20000 in
theorem gm_X12_whyNotPut_X12_lying : GoodIn wm_X12_whyNotPut (wsV RX12 358 RX12 yX12_lying wm_X12_lying) := goodIn_w (List.forall_mem_append.mpr ⟨List.forall_mem_cons.mpr ⟨List.mem_cons_of_mem _ (List.mem_append_left _ (List.mem_append_left _ (List.mem_of_getElem? (i := 14) rfl))), List.forall_mem_cons.mpr ⟨List.mem_cons_of_mem _ (List.mem_append_left _ (List.mem_append_left _ (List.mem_of_getElem? (i := 15) rfl))), List.forall_mem_cons.mpr ⟨List.mem_cons_of_mem _ (List.mem_append_left _ (List.mem_append_right _ (List.mem_of_getElem? (i := 0) rfl))), List.forall_mem_cons.mpr ⟨List.mem_cons_of_mem _ (List.mem_append_left _ (List.mem_append_left _ (List.mem_of_getElem? (i := 3) rfl))), (fun _ h => absurd h List.not_mem_nil)⟩⟩⟩⟩, List.forall_mem_cons.mpr ⟨List.mem_cons_of_mem _ (List.mem_append_left _ (List.mem_append_right _ (List.mem_of_getElem? (i := 1) rfl))), List.forall_mem_append.mpr ⟨List.forall_mem_cons.mpr ⟨List.mem_cons_of_mem _ (List.mem_append_left _ (List.mem_append_right _ (List.mem_of_getElem? (i := 2) rfl))), List.forall_mem_cons.mpr ⟨List.mem_cons_of_mem _ (List.mem_append_left _ (List.mem_append_left _ (List.mem_of_getElem? (i := 5) rfl))), List.forall_mem_cons.mpr ⟨List.mem_cons_of_mem _ (List.mem_append_left _ (List.mem_append_left _ (List.mem_of_getElem? (i := 6) rfl))), (fun _ h => absurd h List.not_mem_nil)⟩⟩⟩, (fun _ h => List.mem_cons_of_mem _ (List.mem_append_right _ h))⟩⟩⟩) (by decide +kernel)
set_option maxRecDepth 20000 in
theorem gm_X12_whyNotPut_X12_isOf : GoodIn wm_X12_whyNotPut (wsV RX12 184 RX12 yX12_isOf wm_X12_isOf) := goodIn_w (List.forall_mem_append.mpr ⟨List.forall_mem_cons.mpr ⟨List.mem_cons_of_mem _ (List.mem_append_left _ (List.mem_append_right _ (List.mem_of_getElem? (i := 4) rfl))), List.forall_mem_cons.mpr ⟨List.mem_cons_of_mem _ (List.mem_append_left _ (List.mem_append_right _ (List.mem_of_getElem? (i := 5) rfl))), List.forall_mem_cons.mpr ⟨List.mem_cons_of_mem _ (List.mem_append_left _ (List.mem_append_right _ (List.mem_of_getElem? (i := 6) rfl))), List.forall_mem_cons.mpr ⟨List.mem_cons_of_mem _ (List.mem_append_left _ (List.mem_append_left _ (List.mem_of_getElem? (i := 3) rfl))), (fun _ h => absurd h List.not_mem_nil)⟩⟩⟩⟩, List.forall_mem_cons.mpr ⟨List.mem_cons_of_mem _ (List.mem_append_left _ (List.mem_append_right _ (List.mem_of_getElem? (i := 7) rfl))), List.forall_mem_append.mpr ⟨List.forall_mem_cons.mpr ⟨List.mem_cons_of_mem _ (List.mem_append_left _ (List.mem_append_right _ (List.mem_of_getElem? (i := 8) rfl))), List.forall_mem_cons.mpr ⟨List.mem_cons_of_mem _ (List.mem_append_left _ (List.mem_append_right _ (List.mem_of_getElem? (i := 9) rfl))), (fun _ h => absurd h List.not_mem_nil)⟩⟩, (fun _ h => List.mem_cons_of_mem _ (List.mem_append_right _ h))⟩⟩⟩) (by decide +kernel)
set_option maxHeartbeats 4000000 in
set_option maxRecDepth 100000 in
theorem s_X12_whyNotPut (l : Launch) (D : va_G) (sz : Nat) (o : Nat) (a : Nat → Nat) (t : Nat → ClassId) (i : Nat → Int32) (q : Int64) (c : Nat → Nat → Int32) (d : Nat → Nat → Int64) (w1 : Int32) (w2 : Int32) (b1 : Int32) (hI : mInv i c) (hw1 : 0 ≤ w1.toInt ∧ w1.toInt < (i 5).toInt) (hw2 : 0 ≤ w2.toInt ∧ w2.toInt < (i 5).toInt) (hs_T : TI (i 5).toInt (fun z => Kd (c 3) (c 6) z 0) (i 22).toInt (c 23) (c 24)) : Met l yX12_whyNotPut wm_X12_whyNotPut ({ frames := 1, cells := 0, slots := 0, locals := 24 }) (va_Pc [.ref o, .int w1, .int w2, .int b1] (pA D sz (mW o a t i q c d) (mT t))) (va_Qi (fun (r : Int32) (_ : Unit) => ((0 ≤ r.toInt ∧ r.toInt ≤ 14) ∧ (Im (r.toInt = 0) ((c 23 w1.toNatClampNeg).toInt = 2 ∧ (c 24 w1.toNatClampNeg).toInt = (i 22).toInt ∧ ¬ w1.toInt = w2.toInt ∧ ¬ Ch (nF (i 5).toInt (c 23) (c 24)) (nF (i 5).toInt (c 23) (c 24) w2.toInt) w1.toInt)))) oA (ro sz)) 0 0 (ro sz) := by
  refine Met.ofW (cc := cX12_whyNotPut) (maxL := 4) (ret := (some .int)) (by decide +kernel) rfl ?_
  intro p e s m args below meth cd s₁ B hml hv
  obtain ⟨rfl, hsz, hP, hK⟩ := hv
  have hx := B.exec
  have hb := B.bytes
  have hr := B.returns
  have hts := atoms_spec (ws := wm_X12_whyNotPut) B.pre
  have hown : s.vm.findClass RX12 = some m.cls := findClass_of_methodNamed B.named
  have hlocks := B.notSynchronized
  subst hsz
  have hA : ∀ q : Nat, s.heap.size ≤ q → ro s.heap.size q := fun _ h => h
  have hS : va_S (ro s.heap.size) s.heap s.heap [] := va_S.rf
  have hl := lv_entry ([.ref o, .int w1, .int w2, .int b1]) (n := 4) (Nat.le_of_ble_eq_true rfl)
  rw [lg_entry_eq]
  generalize (lg_sl ([.ref o, .int w1, .int w2, .int b1]) ++ List.replicate (4 - (lg_sl ([.ref o, .int w1, .int w2, .int b1])).length) Slot.unset).toArray = ls at hl ⊢
  have hl : lv_has ls 4 [(0, .ref o), (1, .int w1), (2, .int w2), (3, .int b1)] := hl
  have rb5_i : 0 ≤ (i 5).toInt ∧ (i 5).toInt ≤ 30 := hI.1 5
  have rb22_i : (i 22).toInt = -9 ∨ (0 ≤ (i 22).toInt ∧ (i 22).toInt ≤ 29) := hI.1 22
  have hTt := hs_T
  obtain ⟨⟨hp0, hp1, hp2⟩, hT2, hT3, ⟨rk, hrk⟩, rr, hq0, hq1, hq2, hq3⟩ := hTt
  have hsp : Sp (nF (i 5).toInt (c 23) (c 24)) := nF_Sp (by omega) hT2
  have hpl := TI_p hs_T
  have hpa : 0 ≤ (c 24 (i 22).toNatClampNeg).toInt ∧ (c 24 (i 22).toNatClampNeg).toInt < (i 5).toInt := hT2 _ hp0 hp1 hpl
  refine lv_aload_n hx hb dX12_whyNotPut_0 rfl (lv_at hl 0 rfl) ?_
  refine lv_iload_n hx hb dX12_whyNotPut_1 rfl (lv_at hl 1 rfl) ?_
  refine ro_calli (va_runV (As := [.int w1]) (rest := []) ⟨hx, hb, hml, hown, hts⟩ (s_X12_holds l D s.heap.size o a t i q c d w1 hI (show 0 ≤ w1.toInt ∧ w1.toInt ≤ 29 from by omega)) (cwV 1 hts gm_X12_whyNotPut_X12_holds rfl rfl rfl (by decide +kernel) ⟨Nat.le_of_ble_eq_true rfl, Nat.le_of_ble_eq_true rfl⟩) (pA_V hK hP (ci := 12) (q0 := 0) rfl rfl) rfl rfl hl.1 rfl (lv_room (Nat.le_of_ble_eq_true rfl)) dX12_whyNotPut_2 ⟨Nat.le_of_ble_eq_true rfl, Nat.le_of_ble_eq_true rfl⟩) hS hA hP (fun r1 u1 H locs hw1 hP hS => ?_)
  have hw1 : ((0 ≤ r1.toInt ∧ r1.toInt ≤ 1) ∧ (Im (r1.toInt = 1) ((c 23 w1.toNatClampNeg).toInt = 2 ∧ (c 24 w1.toNatClampNeg).toInt = (i 22).toInt))) := hw1
  obtain ⟨hw1, hr1_0⟩ := hw1
  have hr1_0 : Im (r1.toInt = 1) ((c 23 w1.toNatClampNeg).toInt = 2 ∧ (c 24 w1.toNatClampNeg).toInt = (i 22).toInt) := hr1_0
  refine lv_if_ne (tgt := 11) hx hb dX12_whyNotPut_5 (by decide +kernel) (fun c2 => ?_) (fun c2 => ?_)
  · have f2 := mt (ti_eq (a := r1.toInt) (b := 0) rfl (by decide +kernel)).mpr c2
    have hHo := hr1_0
    refine lv_aload_n hx hb dX12_whyNotPut_11 rfl (lv_at hl 0 rfl) ?_
    refine mget_43 hx hb hts (fun _ h => List.mem_cons_of_mem _ (List.mem_append_right _ h)) hown hK hP (hts (.fieldLink RX12 86 "TalePlayModel" "seen" "[Z") (List.mem_cons_of_mem _ (List.mem_append_left _ (List.mem_append_left _ (List.mem_of_getElem? (i := 8) rfl))))) dX12_whyNotPut_12 ?_
    refine lv_iload_n hx hb dX12_whyNotPut_15 rfl (lv_at hl 2 rfl) ?_
    refine mld_43 hx hb hK hP (vp_in_iff.mpr (by have h9 : w2.toInt = w2.toInt := rfl; omega)) dX12_whyNotPut_16 (fun x3 ex3 => ?_)
    have rx3 : 0 ≤ x3.toInt ∧ x3.toInt ≤ 1 := by rw [ex3]; exact hI.2 43 _
    refine lv_if_ne (tgt := 22) hx hb dX12_whyNotPut_17 (by decide +kernel) (fun c4 => ?_) (fun c4 => ?_)
    · have f4 := mt (ti_eq (a := x3.toInt) (b := 0) rfl (by decide +kernel)).mpr c4
      refine lv_iload_n hx hb dX12_whyNotPut_22 rfl (lv_at hl 3 rfl) ?_
      have jn5 : ∀ (H : Heap) (locs : List Loc) (ls : Array Slot), va_P D vwCl (mW o a t i q c d) H → va_S (ro s.heap.size) s.heap H locs → lv_has ls 4 [(0, .ref o), (1, .int w1), (2, .int w2), (3, .int b1)] → W p l e (headSpec wm_X12_whyNotPut ({ frames := 1, cells := 0, slots := 0, locals := 24 })).room s m ([.ref o, .int w1, .int w2, .int b1] : List Value).toArray below meth cd H locs 0 0 (MQ below (va_Qi (fun (r : Int32) (_ : Unit) => ((0 ≤ r.toInt ∧ r.toInt ≤ 14) ∧ (Im (r.toInt = 0) ((c 23 w1.toNatClampNeg).toInt = 2 ∧ (c 24 w1.toNatClampNeg).toInt = (i 22).toInt ∧ ¬ w1.toInt = w2.toInt ∧ ¬ Ch (nF (i 5).toInt (c 23) (c 24)) (nF (i 5).toInt (c 23) (c 24) w2.toInt) w1.toInt)))) oA (ro s.heap.size)) ([.ref o, .int w1, .int w2, .int b1] : List Value).toArray s 0 0 (ro s.heap.size)) (F0 m 50 ls []) := by
        intro H locs ls hP hS hl
        refine lv_iload_n hx hb dX12_whyNotPut_50 rfl (lv_at hl 1 rfl) ?_
        refine lv_iload_n hx hb dX12_whyNotPut_51 rfl (lv_at hl 2 rfl) ?_
        refine lv_icmp_eq (tgt := 64) hx hb dX12_whyNotPut_52 (by decide +kernel) (fun c6 => ?_) (fun c6 => ?_)
        · have f6 := (ti_eq (a := w1.toInt) (b := w2.toInt) rfl rfl).mp c6
          refine lv_bipush (v := 13) hx hb dX12_whyNotPut_64 (by decide +kernel) ?_
          exact ro_iret hx hb hr hlocks hS dX12_whyNotPut_66 ⟨(show 0 ≤ (13 : Int32).toInt ∧ (13 : Int32).toInt ≤ 14 from by decide +kernel), (show Im ((13 : Int32).toInt = 0) ((c 23 w1.toNatClampNeg).toInt = 2 ∧ (c 24 w1.toNatClampNeg).toInt = (i 22).toInt ∧ ¬ w1.toInt = w2.toInt ∧ ¬ Ch (nF (i 5).toInt (c 23) (c 24)) (nF (i 5).toInt (c 23) (c 24) w2.toInt) w1.toInt) from fun h9 => absurd h9 (by decide +kernel))⟩
        · have f6 := mt (ti_eq (a := w1.toInt) (b := w2.toInt) rfl rfl).mpr c6
          refine lv_aload_n hx hb dX12_whyNotPut_55 rfl (lv_at hl 0 rfl) ?_
          refine lv_iload_n hx hb dX12_whyNotPut_56 rfl (lv_at hl 1 rfl) ?_
          refine lv_iload_n hx hb dX12_whyNotPut_57 rfl (lv_at hl 2 rfl) ?_
          refine ro_calli (va_runV (As := [.int w1, .int w2]) (rest := []) ⟨hx, hb, hml, hown, hts⟩ (s_X12_isUpFrom l D H.size o a t i q c d w1 w2 hI (show 0 ≤ w1.toInt ∧ w1.toInt < ((i 5) : Int32).toInt from by omega) (show 0 ≤ w2.toInt ∧ w2.toInt < ((i 5) : Int32).toInt from by omega) hs_T) (cwV 2 hts gm_X12_whyNotPut_X12_isUpFrom rfl rfl rfl (by decide +kernel) ⟨Nat.le_of_ble_eq_true rfl, Nat.le_of_ble_eq_true rfl⟩) (pA_V hK hP (ci := 12) (q0 := 0) rfl rfl) rfl rfl hl.1 rfl (lv_room (Nat.le_of_ble_eq_true rfl)) dX12_whyNotPut_58 ⟨Nat.le_of_ble_eq_true rfl, Nat.le_of_ble_eq_true rfl⟩) hS hA hP (fun r7 u7 H locs hw7 hP hS => ?_)
          have hw7 : ((0 ≤ r7.toInt ∧ r7.toInt ≤ 1) ∧ (Im (r7.toInt = 0) (¬ Ch (nF (i 5).toInt (c 23) (c 24)) (nF (i 5).toInt (c 23) (c 24) w2.toInt) w1.toInt))) := hw7
          obtain ⟨hw7, hr7_0⟩ := hw7
          have hr7_0 : Im (r7.toInt = 0) (¬ Ch (nF (i 5).toInt (c 23) (c 24)) (nF (i 5).toInt (c 23) (c 24) w2.toInt) w1.toInt) := hr7_0
          refine lv_if_eq (tgt := 67) hx hb dX12_whyNotPut_61 (by decide +kernel) (fun c8 => ?_) (fun c8 => ?_)
          · have f8 := (ti_eq (a := r7.toInt) (b := 0) rfl (by decide +kernel)).mp c8
            have hUp := hr7_0
            refine lv_iload_n hx hb dX12_whyNotPut_67 rfl (lv_at hl 3 rfl) ?_
            have jn9 : ∀ (H : Heap) (locs : List Loc) (ls : Array Slot), va_P D vwCl (mW o a t i q c d) H → va_S (ro s.heap.size) s.heap H locs → lv_has ls 4 [(0, .ref o), (1, .int w1), (2, .int w2), (3, .int b1)] → W p l e (headSpec wm_X12_whyNotPut ({ frames := 1, cells := 0, slots := 0, locals := 24 })).room s m ([.ref o, .int w1, .int w2, .int b1] : List Value).toArray below meth cd H locs 0 0 (MQ below (va_Qi (fun (r : Int32) (_ : Unit) => ((0 ≤ r.toInt ∧ r.toInt ≤ 14) ∧ (Im (r.toInt = 0) ((c 23 w1.toNatClampNeg).toInt = 2 ∧ (c 24 w1.toNatClampNeg).toInt = (i 22).toInt ∧ ¬ w1.toInt = w2.toInt ∧ ¬ Ch (nF (i 5).toInt (c 23) (c 24)) (nF (i 5).toInt (c 23) (c 24) w2.toInt) w1.toInt)))) oA (ro s.heap.size)) ([.ref o, .int w1, .int w2, .int b1] : List Value).toArray s 0 0 (ro s.heap.size)) (F0 m 82 ls []) := by
              intro H locs ls hP hS hl
              refine lv_aload_n hx hb dX12_whyNotPut_82 rfl (lv_at hl 0 rfl) ?_
              refine mget_44 hx hb hts (fun _ h => List.mem_cons_of_mem _ (List.mem_append_right _ h)) hown hK hP (hts (.fieldLink RX12 89 "TalePlayModel" "reached" "[Z") (List.mem_cons_of_mem _ (List.mem_append_left _ (List.mem_append_left _ (List.mem_of_getElem? (i := 13) rfl))))) dX12_whyNotPut_83 ?_
              refine lv_iload_n hx hb dX12_whyNotPut_86 rfl (lv_at hl 2 rfl) ?_
              refine mld_44 hx hb hK hP (vp_in_iff.mpr (by have h9 : w2.toInt = w2.toInt := rfl; omega)) dX12_whyNotPut_87 (fun x10 ex10 => ?_)
              have rx10 : 0 ≤ x10.toInt ∧ x10.toInt ≤ 1 := by rw [ex10]; exact hI.2 44 _
              refine lv_if_ne (tgt := 94) hx hb dX12_whyNotPut_88 (by decide +kernel) (fun c11 => ?_) (fun c11 => ?_)
              · have f11 := mt (ti_eq (a := x10.toInt) (b := 0) rfl (by decide +kernel)).mpr c11
                refine lv_aload_n hx hb dX12_whyNotPut_94 rfl (lv_at hl 0 rfl) ?_
                refine lv_iload_n hx hb dX12_whyNotPut_95 rfl (lv_at hl 3 rfl) ?_
                have jn12 : ∀ (z12_0 : Int32), (z12_0.toInt = 0 ∨ z12_0.toInt = 1) → ∀ (H : Heap) (locs : List Loc) (ls : Array Slot), va_P D vwCl (mW o a t i q c d) H → va_S (ro s.heap.size) s.heap H locs → lv_has ls 4 [(0, .ref o), (1, .int w1), (2, .int w2), (3, .int b1)] → W p l e (headSpec wm_X12_whyNotPut ({ frames := 1, cells := 0, slots := 0, locals := 24 })).room s m ([.ref o, .int w1, .int w2, .int b1] : List Value).toArray below meth cd H locs 0 0 (MQ below (va_Qi (fun (r : Int32) (_ : Unit) => ((0 ≤ r.toInt ∧ r.toInt ≤ 14) ∧ (Im (r.toInt = 0) ((c 23 w1.toNatClampNeg).toInt = 2 ∧ (c 24 w1.toNatClampNeg).toInt = (i 22).toInt ∧ ¬ w1.toInt = w2.toInt ∧ ¬ Ch (nF (i 5).toInt (c 23) (c 24)) (nF (i 5).toInt (c 23) (c 24) w2.toInt) w1.toInt)))) oA (ro s.heap.size)) ([.ref o, .int w1, .int w2, .int b1] : List Value).toArray s 0 0 (ro s.heap.size)) (F0 m 104 ls [.int z12_0, .ref o]) := by
                  intro z12_0 hs12_0 H locs ls hP hS hl
                  refine lv_iload_n hx hb dX12_whyNotPut_104 rfl (lv_at hl 2 rfl) ?_
                  refine ro_calli (va_runV (As := [.int z12_0, .int w2]) (rest := []) ⟨hx, hb, hml, hown, hts⟩ (s_X12_lying l D H.size o a t i q c d z12_0 w2 hI ) (cwV 2 hts gm_X12_whyNotPut_X12_lying rfl rfl rfl (by decide +kernel) ⟨Nat.le_of_ble_eq_true rfl, Nat.le_of_ble_eq_true rfl⟩) (pA_V hK hP (ci := 12) (q0 := 0) rfl rfl) rfl rfl hl.1 rfl (lv_room (Nat.le_of_ble_eq_true rfl)) dX12_whyNotPut_105 ⟨Nat.le_of_ble_eq_true rfl, Nat.le_of_ble_eq_true rfl⟩) hS hA hP (fun r13 u13 H locs hw13 hP hS => ?_)
                  have hw13 : (0 ≤ r13.toInt ∧ r13.toInt ≤ 30) := hw13
                  refine lv_bipush (v := 8) hx hb dX12_whyNotPut_108 (by decide +kernel) ?_
                  refine lv_icmp_lt (tgt := 118) hx hb dX12_whyNotPut_110 (by decide +kernel) (fun c14 => ?_) (fun c14 => ?_)
                  · have f14 := (ti_lt (a := r13.toInt) (b := 8) rfl (by decide +kernel)).mp c14
                    refine lv_iconst (v := 0) hx hb dX12_whyNotPut_118 (by decide +kernel) ?_
                    exact ro_iret hx hb hr hlocks hS dX12_whyNotPut_119 ⟨(show 0 ≤ (0 : Int32).toInt ∧ (0 : Int32).toInt ≤ 14 from by decide +kernel), (show Im ((0 : Int32).toInt = 0) ((c 23 w1.toNatClampNeg).toInt = 2 ∧ (c 24 w1.toNatClampNeg).toInt = (i 22).toInt ∧ ¬ w1.toInt = w2.toInt ∧ ¬ Ch (nF (i 5).toInt (c 23) (c 24)) (nF (i 5).toInt (c 23) (c 24) w2.toInt) w1.toInt) from fun _ => ⟨(hHo (by omega)).1, (hHo (by omega)).2, by omega, hUp (by omega)⟩)⟩
                  · have f14 := mt (ti_lt (a := r13.toInt) (b := 8) rfl (by decide +kernel)).mpr c14
                    refine lv_bipush (v := 14) hx hb dX12_whyNotPut_113 (by decide +kernel) ?_
                    refine lv_goto (tgt := 119) hx hb dX12_whyNotPut_115 (by decide +kernel) ?_
                    exact ro_iret hx hb hr hlocks hS dX12_whyNotPut_119 ⟨(show 0 ≤ (14 : Int32).toInt ∧ (14 : Int32).toInt ≤ 14 from by decide +kernel), (show Im ((14 : Int32).toInt = 0) ((c 23 w1.toNatClampNeg).toInt = 2 ∧ (c 24 w1.toNatClampNeg).toInt = (i 22).toInt ∧ ¬ w1.toInt = w2.toInt ∧ ¬ Ch (nF (i 5).toInt (c 23) (c 24)) (nF (i 5).toInt (c 23) (c 24) w2.toInt) w1.toInt) from fun h9 => absurd h9 (by decide +kernel))⟩
                refine lv_if_eq (tgt := 103) hx hb dX12_whyNotPut_96 (by decide +kernel) (fun c15 => ?_) (fun c15 => ?_)
                · have f15 := (ti_eq (a := b1.toInt) (b := 0) rfl (by decide +kernel)).mp c15
                  refine lv_iconst (v := 1) hx hb dX12_whyNotPut_103 (by decide +kernel) ?_
                  exact jn12  (1 : Int32) (show (1 : Int32).toInt = 0 ∨ (1 : Int32).toInt = 1 from by decide +kernel) _ _ _ hP hS (lv_sub hl [0, 1, 2, 3] rfl)
                · have f15 := mt (ti_eq (a := b1.toInt) (b := 0) rfl (by decide +kernel)).mpr c15
                  refine lv_iconst (v := 0) hx hb dX12_whyNotPut_99 (by decide +kernel) ?_
                  refine lv_goto (tgt := 104) hx hb dX12_whyNotPut_100 (by decide +kernel) ?_
                  exact jn12  (0 : Int32) (show (0 : Int32).toInt = 0 ∨ (0 : Int32).toInt = 1 from by decide +kernel) _ _ _ hP hS (lv_sub hl [0, 1, 2, 3] rfl)
              · have f11 := (ti_eq (a := x10.toInt) (b := 0) rfl (by decide +kernel)).mp c11
                refine lv_bipush (v := 8) hx hb dX12_whyNotPut_91 (by decide +kernel) ?_
                exact ro_iret hx hb hr hlocks hS dX12_whyNotPut_93 ⟨(show 0 ≤ (8 : Int32).toInt ∧ (8 : Int32).toInt ≤ 14 from by decide +kernel), (show Im ((8 : Int32).toInt = 0) ((c 23 w1.toNatClampNeg).toInt = 2 ∧ (c 24 w1.toNatClampNeg).toInt = (i 22).toInt ∧ ¬ w1.toInt = w2.toInt ∧ ¬ Ch (nF (i 5).toInt (c 23) (c 24)) (nF (i 5).toInt (c 23) (c 24) w2.toInt) w1.toInt) from fun h9 => absurd h9 (by decide +kernel))⟩
            refine lv_if_eq (tgt := 82) hx hb dX12_whyNotPut_68 (by decide +kernel) (fun c16 => ?_) (fun c16 => ?_)
            · have f16 := (ti_eq (a := b1.toInt) (b := 0) rfl (by decide +kernel)).mp c16
              exact jn9    _ _ _ hP hS (lv_sub hl [0, 1, 2, 3] rfl)
            · have f16 := mt (ti_eq (a := b1.toInt) (b := 0) rfl (by decide +kernel)).mpr c16
              refine lv_aload_n hx hb dX12_whyNotPut_71 rfl (lv_at hl 0 rfl) ?_
              refine mget_25 hx hb hts (fun _ h => List.mem_cons_of_mem _ (List.mem_append_right _ h)) hown hK hP (hts (.fieldLink RX12 56 "TalePlayModel" "nOpen" "[Z") (List.mem_cons_of_mem _ (List.mem_append_left _ (List.mem_append_right _ (List.mem_of_getElem? (i := 3) rfl))))) dX12_whyNotPut_72 ?_
              refine lv_iload_n hx hb dX12_whyNotPut_75 rfl (lv_at hl 2 rfl) ?_
              refine mld_25 hx hb hK hP (vp_in_iff.mpr (by have h9 : w2.toInt = w2.toInt := rfl; omega)) dX12_whyNotPut_76 (fun x17 ex17 => ?_)
              have rx17 : 0 ≤ x17.toInt ∧ x17.toInt ≤ 1 := by rw [ex17]; exact hI.2 25 _
              refine lv_if_ne (tgt := 82) hx hb dX12_whyNotPut_77 (by decide +kernel) (fun c18 => ?_) (fun c18 => ?_)
              · have f18 := mt (ti_eq (a := x17.toInt) (b := 0) rfl (by decide +kernel)).mpr c18
                exact jn9    _ _ _ hP hS (lv_sub hl [0, 1, 2, 3] rfl)
              · have f18 := (ti_eq (a := x17.toInt) (b := 0) rfl (by decide +kernel)).mp c18
                refine lv_iconst (v := 3) hx hb dX12_whyNotPut_80 (by decide +kernel) ?_
                exact ro_iret hx hb hr hlocks hS dX12_whyNotPut_81 ⟨(show 0 ≤ (3 : Int32).toInt ∧ (3 : Int32).toInt ≤ 14 from by decide +kernel), (show Im ((3 : Int32).toInt = 0) ((c 23 w1.toNatClampNeg).toInt = 2 ∧ (c 24 w1.toNatClampNeg).toInt = (i 22).toInt ∧ ¬ w1.toInt = w2.toInt ∧ ¬ Ch (nF (i 5).toInt (c 23) (c 24)) (nF (i 5).toInt (c 23) (c 24) w2.toInt) w1.toInt) from fun h9 => absurd h9 (by decide +kernel))⟩
          · have f8 := mt (ti_eq (a := r7.toInt) (b := 0) rfl (by decide +kernel)).mpr c8
            refine lv_bipush (v := 13) hx hb dX12_whyNotPut_64 (by decide +kernel) ?_
            exact ro_iret hx hb hr hlocks hS dX12_whyNotPut_66 ⟨(show 0 ≤ (13 : Int32).toInt ∧ (13 : Int32).toInt ≤ 14 from by decide +kernel), (show Im ((13 : Int32).toInt = 0) ((c 23 w1.toNatClampNeg).toInt = 2 ∧ (c 24 w1.toNatClampNeg).toInt = (i 22).toInt ∧ ¬ w1.toInt = w2.toInt ∧ ¬ Ch (nF (i 5).toInt (c 23) (c 24)) (nF (i 5).toInt (c 23) (c 24) w2.toInt) w1.toInt) from fun h9 => absurd h9 (by decide +kernel))⟩
      refine lv_if_eq (tgt := 38) hx hb dX12_whyNotPut_23 (by decide +kernel) (fun c19 => ?_) (fun c19 => ?_)
      · have f19 := (ti_eq (a := b1.toInt) (b := 0) rfl (by decide +kernel)).mp c19
        refine lv_aload_n hx hb dX12_whyNotPut_38 rfl (lv_at hl 0 rfl) ?_
        refine lv_iload_n hx hb dX12_whyNotPut_39 rfl (lv_at hl 2 rfl) ?_
        refine lv_iconst (v := 4) hx hb dX12_whyNotPut_40 (by decide +kernel) ?_
        refine ro_calli (va_runV (As := [.int w2, .int 4]) (rest := []) ⟨hx, hb, hml, hown, hts⟩ (s_X12_isOf l D H.size o a t i q c d w2 4 hI (show 0 ≤ w2.toInt ∧ w2.toInt ≤ 29 from by have h91 : (4 : Int32).toInt = 4 := (by decide +kernel); omega) (show 0 ≤ 4 from by decide +kernel)) (cwV 2 hts gm_X12_whyNotPut_X12_isOf rfl rfl rfl (by decide +kernel) ⟨Nat.le_of_ble_eq_true rfl, Nat.le_of_ble_eq_true rfl⟩) (pA_V hK hP (ci := 12) (q0 := 0) rfl rfl) rfl rfl hl.1 rfl (lv_room (Nat.le_of_ble_eq_true rfl)) dX12_whyNotPut_41 ⟨Nat.le_of_ble_eq_true rfl, Nat.le_of_ble_eq_true rfl⟩) hS hA hP (fun r20 u20 H locs hw20 hP hS => ?_)
        have hw20 : ((0 ≤ r20.toInt ∧ r20.toInt ≤ 1) ∧ (Sm r20 (Kd (c 3) (c 6) w2.toInt 4))) := hw20
        obtain ⟨hw20, hr20_0⟩ := hw20
        have hr20_0 : Sm r20 (Kd (c 3) (c 6) w2.toInt 4) := hr20_0
        refine lv_if_ne (tgt := 50) hx hb dX12_whyNotPut_44 (by decide +kernel) (fun c21 => ?_) (fun c21 => ?_)
        · have f21 := mt (ti_eq (a := r20.toInt) (b := 0) rfl (by decide +kernel)).mpr c21
          have s21 := sm_t hr20_0 c21
          exact jn5    _ _ _ hP hS (lv_sub hl [0, 1, 2, 3] rfl)
        · have f21 := (ti_eq (a := r20.toInt) (b := 0) rfl (by decide +kernel)).mp c21
          have s21 := sm_f hr20_0 c21
          refine lv_bipush (v := 12) hx hb dX12_whyNotPut_47 (by decide +kernel) ?_
          exact ro_iret hx hb hr hlocks hS dX12_whyNotPut_49 ⟨(show 0 ≤ (12 : Int32).toInt ∧ (12 : Int32).toInt ≤ 14 from by decide +kernel), (show Im ((12 : Int32).toInt = 0) ((c 23 w1.toNatClampNeg).toInt = 2 ∧ (c 24 w1.toNatClampNeg).toInt = (i 22).toInt ∧ ¬ w1.toInt = w2.toInt ∧ ¬ Ch (nF (i 5).toInt (c 23) (c 24)) (nF (i 5).toInt (c 23) (c 24) w2.toInt) w1.toInt) from fun h9 => absurd h9 (by decide +kernel))⟩
      · have f19 := mt (ti_eq (a := b1.toInt) (b := 0) rfl (by decide +kernel)).mpr c19
        refine lv_aload_n hx hb dX12_whyNotPut_26 rfl (lv_at hl 0 rfl) ?_
        refine mget_47 hx hb hts (fun _ h => List.mem_cons_of_mem _ (List.mem_append_right _ h)) hown hK hP (hts (.fieldLink RX12 98 "TalePlayModel" "isBox" "[Z") (List.mem_cons_of_mem _ (List.mem_append_left _ (List.mem_append_right _ (List.mem_of_getElem? (i := 10) rfl))))) dX12_whyNotPut_27 ?_
        refine lv_iload_n hx hb dX12_whyNotPut_30 rfl (lv_at hl 2 rfl) ?_
        refine mld_47 hx hb hK hP (vp_in_iff.mpr (by have h9 : w2.toInt = w2.toInt := rfl; omega)) dX12_whyNotPut_31 (fun x22 ex22 => ?_)
        have rx22 : 0 ≤ x22.toInt ∧ x22.toInt ≤ 1 := by rw [ex22]; exact hI.2 47 _
        refine lv_if_ne (tgt := 50) hx hb dX12_whyNotPut_32 (by decide +kernel) (fun c23 => ?_) (fun c23 => ?_)
        · have f23 := mt (ti_eq (a := x22.toInt) (b := 0) rfl (by decide +kernel)).mpr c23
          exact jn5    _ _ _ hP hS (lv_sub hl [0, 1, 2, 3] rfl)
        · have f23 := (ti_eq (a := x22.toInt) (b := 0) rfl (by decide +kernel)).mp c23
          refine lv_goto (tgt := 47) hx hb dX12_whyNotPut_35 (by decide +kernel) ?_
          refine lv_bipush (v := 12) hx hb dX12_whyNotPut_47 (by decide +kernel) ?_
          exact ro_iret hx hb hr hlocks hS dX12_whyNotPut_49 ⟨(show 0 ≤ (12 : Int32).toInt ∧ (12 : Int32).toInt ≤ 14 from by decide +kernel), (show Im ((12 : Int32).toInt = 0) ((c 23 w1.toNatClampNeg).toInt = 2 ∧ (c 24 w1.toNatClampNeg).toInt = (i 22).toInt ∧ ¬ w1.toInt = w2.toInt ∧ ¬ Ch (nF (i 5).toInt (c 23) (c 24)) (nF (i 5).toInt (c 23) (c 24) w2.toInt) w1.toInt) from fun h9 => absurd h9 (by decide +kernel))⟩
    · have f4 := (ti_eq (a := x3.toInt) (b := 0) rfl (by decide +kernel)).mp c4
      refine lv_iconst (v := 4) hx hb dX12_whyNotPut_20 (by decide +kernel) ?_
      exact ro_iret hx hb hr hlocks hS dX12_whyNotPut_21 ⟨(show 0 ≤ (4 : Int32).toInt ∧ (4 : Int32).toInt ≤ 14 from by decide +kernel), (show Im ((4 : Int32).toInt = 0) ((c 23 w1.toNatClampNeg).toInt = 2 ∧ (c 24 w1.toNatClampNeg).toInt = (i 22).toInt ∧ ¬ w1.toInt = w2.toInt ∧ ¬ Ch (nF (i 5).toInt (c 23) (c 24)) (nF (i 5).toInt (c 23) (c 24) w2.toInt) w1.toInt) from fun h9 => absurd h9 (by decide +kernel))⟩
  · have f2 := (ti_eq (a := r1.toInt) (b := 0) rfl (by decide +kernel)).mp c2
    refine lv_bipush (v := 11) hx hb dX12_whyNotPut_8 (by decide +kernel) ?_
    exact ro_iret hx hb hr hlocks hS dX12_whyNotPut_10 ⟨(show 0 ≤ (11 : Int32).toInt ∧ (11 : Int32).toInt ≤ 14 from by decide +kernel), (show Im ((11 : Int32).toInt = 0) ((c 23 w1.toNatClampNeg).toInt = 2 ∧ (c 24 w1.toNatClampNeg).toInt = (i 22).toInt ∧ ¬ w1.toInt = w2.toInt ∧ ¬ Ch (nF (i 5).toInt (c 23) (c 24)) (nF (i 5).toInt (c 23) (c 24) w2.toInt) w1.toInt) from fun h9 => absurd h9 (by decide +kernel))⟩

def wm_X12_whyNotTurn : List Cond := .code yX12_whyNotTurn cX12_whyNotTurn 4 (some .int) :: ((([.fieldLink RX12 86 "TalePlayModel" "seen" "[Z", .methodLink RX12 191 yX12_isShutter, .instanceMethod yX12_isShutter, .selects RX12 yX12_isShutter yX12_isShutter, .initialized RX12, .code yX12_isShutter cX12_isShutter 2 (some .boolean), .methodLink RX12 184 yX12_isOf, .instanceMethod yX12_isOf, .selects RX12 yX12_isOf yX12_isOf, .code yX12_isOf cX12_isOf 4 (some .boolean), .fieldLink RX12 19 "TalePlayModel" "kindOf" "[I", .fieldLink RX12 13 "TalePlayModel" "parentOf" "[I", .fieldLink RX12 89 "TalePlayModel" "reached" "[Z", .methodLink RX12 260 yX12_keyOf, .instanceMethod yX12_keyOf, .selects RX12 yX12_keyOf yX12_keyOf] : List Cond) ++ ([.code yX12_keyOf cX12_keyOf 3 (some .int), .fieldLink RX12 202 "TalePlayModel" "sentences" "I", .fieldLink RX12 37 "TalePlayModel" "isSaid" "[Z", .fieldLink RX12 25 "TalePlayModel" "form" "[I", .fieldLink RX12 31 "TalePlayModel" "middle" "[I", .fieldLink RX12 28 "TalePlayModel" "left" "[I", .methodLink RX12 355 yX12_holds, .instanceMethod yX12_holds, .selects RX12 yX12_holds yX12_holds, .code yX12_holds cX12_holds 2 (some .boolean), .fieldLink RX12 50 "TalePlayModel" "nForm" "[I", .fieldLink RX12 53 "TalePlayModel" "nAt" "[I", .fieldLink RX12 155 "TalePlayModel" "player" "I", .fieldLink RX12 56 "TalePlayModel" "nOpen" "[Z", .fieldLink RX12 59 "TalePlayModel" "nLocked" "[Z"] : List Cond)) ++ wsX120)
set_option maxRecDepth 20000 in
theorem gm_X12_whyNotTurn_X12_isShutter : GoodIn wm_X12_whyNotTurn (wsV RX12 191 RX12 yX12_isShutter wm_X12_isShutter) := goodIn_w (List.forall_mem_append.mpr ⟨List.forall_mem_cons.mpr ⟨List.mem_cons_of_mem _ (List.mem_append_left _ (List.mem_append_left _ (List.mem_of_getElem? (i := 1) rfl))), List.forall_mem_cons.mpr ⟨List.mem_cons_of_mem _ (List.mem_append_left _ (List.mem_append_left _ (List.mem_of_getElem? (i := 2) rfl))), List.forall_mem_cons.mpr ⟨List.mem_cons_of_mem _ (List.mem_append_left _ (List.mem_append_left _ (List.mem_of_getElem? (i := 3) rfl))), List.forall_mem_cons.mpr ⟨List.mem_cons_of_mem _ (List.mem_append_left _ (List.mem_append_left _ (List.mem_of_getElem? (i := 4) rfl))), (fun _ h => absurd h List.not_mem_nil)⟩⟩⟩⟩, List.forall_mem_cons.mpr ⟨List.mem_cons_of_mem _ (List.mem_append_left _ (List.mem_append_left _ (List.mem_of_getElem? (i := 5) rfl))), List.forall_mem_append.mpr ⟨List.forall_mem_cons.mpr ⟨List.mem_cons_of_mem _ (List.mem_append_left _ (List.mem_append_left _ (List.mem_of_getElem? (i := 6) rfl))), List.forall_mem_cons.mpr ⟨List.mem_cons_of_mem _ (List.mem_append_left _ (List.mem_append_left _ (List.mem_of_getElem? (i := 7) rfl))), List.forall_mem_cons.mpr ⟨List.mem_cons_of_mem _ (List.mem_append_left _ (List.mem_append_left _ (List.mem_of_getElem? (i := 8) rfl))), List.forall_mem_cons.mpr ⟨List.mem_cons_of_mem _ (List.mem_append_left _ (List.mem_append_left _ (List.mem_of_getElem? (i := 4) rfl))), List.forall_mem_cons.mpr ⟨List.mem_cons_of_mem _ (List.mem_append_left _ (List.mem_append_left _ (List.mem_of_getElem? (i := 9) rfl))), List.forall_mem_cons.mpr ⟨List.mem_cons_of_mem _ (List.mem_append_left _ (List.mem_append_left _ (List.mem_of_getElem? (i := 10) rfl))), List.forall_mem_cons.mpr ⟨List.mem_cons_of_mem _ (List.mem_append_left _ (List.mem_append_left _ (List.mem_of_getElem? (i := 11) rfl))), (fun _ h => absurd h List.not_mem_nil)⟩⟩⟩⟩⟩⟩⟩, (fun _ h => List.mem_cons_of_mem _ (List.mem_append_right _ h))⟩⟩⟩) (by decide +kernel)
set_option maxRecDepth 20000 in
theorem gm_X12_whyNotTurn_X12_keyOf : GoodIn wm_X12_whyNotTurn (wsV RX12 260 RX12 yX12_keyOf wm_X12_keyOf) := goodIn_w (List.forall_mem_append.mpr ⟨List.forall_mem_cons.mpr ⟨List.mem_cons_of_mem _ (List.mem_append_left _ (List.mem_append_left _ (List.mem_of_getElem? (i := 13) rfl))), List.forall_mem_cons.mpr ⟨List.mem_cons_of_mem _ (List.mem_append_left _ (List.mem_append_left _ (List.mem_of_getElem? (i := 14) rfl))), List.forall_mem_cons.mpr ⟨List.mem_cons_of_mem _ (List.mem_append_left _ (List.mem_append_left _ (List.mem_of_getElem? (i := 15) rfl))), List.forall_mem_cons.mpr ⟨List.mem_cons_of_mem _ (List.mem_append_left _ (List.mem_append_left _ (List.mem_of_getElem? (i := 4) rfl))), (fun _ h => absurd h List.not_mem_nil)⟩⟩⟩⟩, List.forall_mem_cons.mpr ⟨List.mem_cons_of_mem _ (List.mem_append_left _ (List.mem_append_right _ (List.mem_of_getElem? (i := 0) rfl))), List.forall_mem_append.mpr ⟨List.forall_mem_cons.mpr ⟨List.mem_cons_of_mem _ (List.mem_append_left _ (List.mem_append_right _ (List.mem_of_getElem? (i := 1) rfl))), List.forall_mem_cons.mpr ⟨List.mem_cons_of_mem _ (List.mem_append_left _ (List.mem_append_right _ (List.mem_of_getElem? (i := 2) rfl))), List.forall_mem_cons.mpr ⟨List.mem_cons_of_mem _ (List.mem_append_left _ (List.mem_append_right _ (List.mem_of_getElem? (i := 3) rfl))), List.forall_mem_cons.mpr ⟨List.mem_cons_of_mem _ (List.mem_append_left _ (List.mem_append_right _ (List.mem_of_getElem? (i := 4) rfl))), List.forall_mem_cons.mpr ⟨List.mem_cons_of_mem _ (List.mem_append_left _ (List.mem_append_right _ (List.mem_of_getElem? (i := 5) rfl))), (fun _ h => absurd h List.not_mem_nil)⟩⟩⟩⟩⟩, (fun _ h => List.mem_cons_of_mem _ (List.mem_append_right _ h))⟩⟩⟩) (by decide +kernel)
set_option maxRecDepth 20000 in
theorem gm_X12_whyNotTurn_X12_holds : GoodIn wm_X12_whyNotTurn (wsV RX12 355 RX12 yX12_holds wm_X12_holds) := goodIn_w (List.forall_mem_append.mpr ⟨List.forall_mem_cons.mpr ⟨List.mem_cons_of_mem _ (List.mem_append_left _ (List.mem_append_right _ (List.mem_of_getElem? (i := 6) rfl))), List.forall_mem_cons.mpr ⟨List.mem_cons_of_mem _ (List.mem_append_left _ (List.mem_append_right _ (List.mem_of_getElem? (i := 7) rfl))), List.forall_mem_cons.mpr ⟨List.mem_cons_of_mem _ (List.mem_append_left _ (List.mem_append_right _ (List.mem_of_getElem? (i := 8) rfl))), List.forall_mem_cons.mpr ⟨List.mem_cons_of_mem _ (List.mem_append_left _ (List.mem_append_left _ (List.mem_of_getElem? (i := 4) rfl))), (fun _ h => absurd h List.not_mem_nil)⟩⟩⟩⟩, List.forall_mem_cons.mpr ⟨List.mem_cons_of_mem _ (List.mem_append_left _ (List.mem_append_right _ (List.mem_of_getElem? (i := 9) rfl))), List.forall_mem_append.mpr ⟨List.forall_mem_cons.mpr ⟨List.mem_cons_of_mem _ (List.mem_append_left _ (List.mem_append_right _ (List.mem_of_getElem? (i := 10) rfl))), List.forall_mem_cons.mpr ⟨List.mem_cons_of_mem _ (List.mem_append_left _ (List.mem_append_right _ (List.mem_of_getElem? (i := 11) rfl))), List.forall_mem_cons.mpr ⟨List.mem_cons_of_mem _ (List.mem_append_left _ (List.mem_append_right _ (List.mem_of_getElem? (i := 12) rfl))), (fun _ h => absurd h List.not_mem_nil)⟩⟩⟩, (fun _ h => List.mem_cons_of_mem _ (List.mem_append_right _ h))⟩⟩⟩) (by decide +kernel)
set_option maxHeartbeats 4000000 in
set_option maxRecDepth 100000 in
theorem s_X12_whyNotTurn (l : Launch) (D : va_G) (sz : Nat) (o : Nat) (a : Nat → Nat) (t : Nat → ClassId) (i : Nat → Int32) (q : Int64) (c : Nat → Nat → Int32) (d : Nat → Nat → Int64) (v1 : Int32) (w1 : Int32) (w2 : Int32) (hI : mInv i c) (hw1 : 0 ≤ w1.toInt ∧ w1.toInt ≤ 29) (hw2 : v1.toInt = 7 ∨ v1.toInt = 8 → 0 ≤ w2.toInt ∧ w2.toInt ≤ 29) (hv1 : 5 ≤ v1.toInt ∧ v1.toInt ≤ 8) : Met l yX12_whyNotTurn wm_X12_whyNotTurn ({ frames := 2, cells := 0, slots := 0, locals := 44 }) (va_Pc [.ref o, .int v1, .int w1, .int w2] (pA D sz (mW o a t i q c d) (mT t))) (va_Qi (fun (r : Int32) (_ : Unit) => (0 ≤ r.toInt ∧ r.toInt ≤ 18)) oA (ro sz)) 0 0 (ro sz) := by
  refine Met.ofW (cc := cX12_whyNotTurn) (maxL := 4) (ret := (some .int)) (by decide +kernel) rfl ?_
  intro p e s m args below meth cd s₁ B hml hv
  obtain ⟨rfl, hsz, hP, hK⟩ := hv
  have hx := B.exec
  have hb := B.bytes
  have hr := B.returns
  have hts := atoms_spec (ws := wm_X12_whyNotTurn) B.pre
  have hown : s.vm.findClass RX12 = some m.cls := findClass_of_methodNamed B.named
  have hlocks := B.notSynchronized
  subst hsz
  have hA : ∀ q : Nat, s.heap.size ≤ q → ro s.heap.size q := fun _ h => h
  have hS : va_S (ro s.heap.size) s.heap s.heap [] := va_S.rf
  have hl := lv_entry ([.ref o, .int v1, .int w1, .int w2]) (n := 4) (Nat.le_of_ble_eq_true rfl)
  rw [lg_entry_eq]
  generalize (lg_sl ([.ref o, .int v1, .int w1, .int w2]) ++ List.replicate (4 - (lg_sl ([.ref o, .int v1, .int w1, .int w2])).length) Slot.unset).toArray = ls at hl ⊢
  have hl : lv_has ls 4 [(0, .ref o), (1, .int v1), (2, .int w1), (3, .int w2)] := hl
  refine lv_aload_n hx hb dX12_whyNotTurn_0 rfl (lv_at hl 0 rfl) ?_
  refine mget_43 hx hb hts (fun _ h => List.mem_cons_of_mem _ (List.mem_append_right _ h)) hown hK hP (hts (.fieldLink RX12 86 "TalePlayModel" "seen" "[Z") (List.mem_cons_of_mem _ (List.mem_append_left _ (List.mem_append_left _ (List.mem_of_getElem? (i := 0) rfl))))) dX12_whyNotTurn_1 ?_
  refine lv_iload_n hx hb dX12_whyNotTurn_4 rfl (lv_at hl 2 rfl) ?_
  refine mld_43 hx hb hK hP (vp_in_iff.mpr (by have h9 : w1.toInt = w1.toInt := rfl; omega)) dX12_whyNotTurn_5 (fun x1 ex1 => ?_)
  have rx1 : 0 ≤ x1.toInt ∧ x1.toInt ≤ 1 := by rw [ex1]; exact hI.2 43 _
  refine lv_if_ne (tgt := 11) hx hb dX12_whyNotTurn_6 (by decide +kernel) (fun c2 => ?_) (fun c2 => ?_)
  · have f2 := mt (ti_eq (a := x1.toInt) (b := 0) rfl (by decide +kernel)).mpr c2
    refine lv_aload_n hx hb dX12_whyNotTurn_11 rfl (lv_at hl 0 rfl) ?_
    refine lv_iload_n hx hb dX12_whyNotTurn_12 rfl (lv_at hl 2 rfl) ?_
    refine ro_calli (va_runV (As := [.int w1]) (rest := []) ⟨hx, hb, hml, hown, hts⟩ (s_X12_isShutter l D s.heap.size o a t i q c d w1 hI (show 0 ≤ w1.toInt ∧ w1.toInt ≤ 29 from by omega)) (cwV 1 hts gm_X12_whyNotTurn_X12_isShutter rfl rfl rfl (by decide +kernel) ⟨Nat.le_of_ble_eq_true rfl, Nat.le_of_ble_eq_true rfl⟩) (pA_V hK hP (ci := 12) (q0 := 0) rfl rfl) rfl rfl hl.1 rfl (lv_room (Nat.le_of_ble_eq_true rfl)) dX12_whyNotTurn_13 ⟨Nat.le_of_ble_eq_true rfl, Nat.le_of_ble_eq_true rfl⟩) hS hA hP (fun r3 u3 H locs hw3 hP hS => ?_)
    have hw3 : (0 ≤ r3.toInt ∧ r3.toInt ≤ 1) := hw3
    refine lv_if_ne (tgt := 22) hx hb dX12_whyNotTurn_16 (by decide +kernel) (fun c4 => ?_) (fun c4 => ?_)
    · have f4 := mt (ti_eq (a := r3.toInt) (b := 0) rfl (by decide +kernel)).mpr c4
      refine lv_iload_n hx hb dX12_whyNotTurn_22 rfl (lv_at hl 1 rfl) ?_
      refine lv_iconst (v := 5) hx hb dX12_whyNotTurn_23 (by decide +kernel) ?_
      have jn5 : ∀ (H : Heap) (locs : List Loc) (ls : Array Slot), va_P D vwCl (mW o a t i q c d) H → va_S (ro s.heap.size) s.heap H locs → lv_has ls 4 [(0, .ref o), (1, .int v1), (2, .int w1), (3, .int w2)] → W p l e (headSpec wm_X12_whyNotTurn ({ frames := 2, cells := 0, slots := 0, locals := 44 })).room s m ([.ref o, .int v1, .int w1, .int w2] : List Value).toArray below meth cd H locs 0 0 (MQ below (va_Qi (fun (r : Int32) (_ : Unit) => (0 ≤ r.toInt ∧ r.toInt ≤ 18)) oA (ro s.heap.size)) ([.ref o, .int v1, .int w1, .int w2] : List Value).toArray s 0 0 (ro s.heap.size)) (F0 m 39 ls []) := by
        intro H locs ls hP hS hl
        refine lv_iload_n hx hb dX12_whyNotTurn_39 rfl (lv_at hl 1 rfl) ?_
        refine lv_bipush (v := 6) hx hb dX12_whyNotTurn_40 (by decide +kernel) ?_
        have jn6 : ∀ (H : Heap) (locs : List Loc) (ls : Array Slot), va_P D vwCl (mW o a t i q c d) H → va_S (ro s.heap.size) s.heap H locs → lv_has ls 4 [(0, .ref o), (1, .int v1), (2, .int w1), (3, .int w2)] → W p l e (headSpec wm_X12_whyNotTurn ({ frames := 2, cells := 0, slots := 0, locals := 44 })).room s m ([.ref o, .int v1, .int w1, .int w2] : List Value).toArray below meth cd H locs 0 0 (MQ below (va_Qi (fun (r : Int32) (_ : Unit) => (0 ≤ r.toInt ∧ r.toInt ≤ 18)) oA (ro s.heap.size)) ([.ref o, .int v1, .int w1, .int w2] : List Value).toArray s 0 0 (ro s.heap.size)) (F0 m 56 ls []) := by
          intro H locs ls hP hS hl
          refine lv_iload_n hx hb dX12_whyNotTurn_56 rfl (lv_at hl 1 rfl) ?_
          refine lv_bipush (v := 7) hx hb dX12_whyNotTurn_57 (by decide +kernel) ?_
          have jn7 : ∀ (H : Heap) (locs : List Loc) (ls : Array Slot), va_P D vwCl (mW o a t i q c d) H → va_S (ro s.heap.size) s.heap H locs → lv_has ls 4 [(0, .ref o), (1, .int v1), (2, .int w1), (3, .int w2)] → W p l e (headSpec wm_X12_whyNotTurn ({ frames := 2, cells := 0, slots := 0, locals := 44 })).room s m ([.ref o, .int v1, .int w1, .int w2] : List Value).toArray below meth cd H locs 0 0 (MQ below (va_Qi (fun (r : Int32) (_ : Unit) => (0 ≤ r.toInt ∧ r.toInt ≤ 18)) oA (ro s.heap.size)) ([.ref o, .int v1, .int w1, .int w2] : List Value).toArray s 0 0 (ro s.heap.size)) (F0 m 74 ls []) := by
            intro H locs ls hP hS hl
            refine lv_iload_n hx hb dX12_whyNotTurn_74 rfl (lv_at hl 1 rfl) ?_
            refine lv_iconst (v := 5) hx hb dX12_whyNotTurn_75 (by decide +kernel) ?_
            have jn8 : ∀ (H : Heap) (locs : List Loc) (ls : Array Slot), va_P D vwCl (mW o a t i q c d) H → va_S (ro s.heap.size) s.heap H locs → lv_has ls 4 [(0, .ref o), (1, .int v1), (2, .int w1), (3, .int w2)] → W p l e (headSpec wm_X12_whyNotTurn ({ frames := 2, cells := 0, slots := 0, locals := 44 })).room s m ([.ref o, .int v1, .int w1, .int w2] : List Value).toArray below meth cd H locs 0 0 (MQ below (va_Qi (fun (r : Int32) (_ : Unit) => (0 ≤ r.toInt ∧ r.toInt ≤ 18)) oA (ro s.heap.size)) ([.ref o, .int v1, .int w1, .int w2] : List Value).toArray s 0 0 (ro s.heap.size)) (F0 m 97 ls []) := by
              intro H locs ls hP hS hl
              refine lv_iload_n hx hb dX12_whyNotTurn_97 rfl (lv_at hl 1 rfl) ?_
              refine lv_bipush (v := 8) hx hb dX12_whyNotTurn_98 (by decide +kernel) ?_
              have jn9 : ∀ (H : Heap) (locs : List Loc) (ls : Array Slot), va_P D vwCl (mW o a t i q c d) H → va_S (ro s.heap.size) s.heap H locs → lv_has ls 4 [(0, .ref o), (1, .int v1), (2, .int w1), (3, .int w2)] → W p l e (headSpec wm_X12_whyNotTurn ({ frames := 2, cells := 0, slots := 0, locals := 44 })).room s m ([.ref o, .int v1, .int w1, .int w2] : List Value).toArray below meth cd H locs 0 0 (MQ below (va_Qi (fun (r : Int32) (_ : Unit) => (0 ≤ r.toInt ∧ r.toInt ≤ 18)) oA (ro s.heap.size)) ([.ref o, .int v1, .int w1, .int w2] : List Value).toArray s 0 0 (ro s.heap.size)) (F0 m 115 ls []) := by
                intro H locs ls hP hS hl
                refine lv_aload_n hx hb dX12_whyNotTurn_115 rfl (lv_at hl 0 rfl) ?_
                refine mget_44 hx hb hts (fun _ h => List.mem_cons_of_mem _ (List.mem_append_right _ h)) hown hK hP (hts (.fieldLink RX12 89 "TalePlayModel" "reached" "[Z") (List.mem_cons_of_mem _ (List.mem_append_left _ (List.mem_append_left _ (List.mem_of_getElem? (i := 12) rfl))))) dX12_whyNotTurn_116 ?_
                refine lv_iload_n hx hb dX12_whyNotTurn_119 rfl (lv_at hl 2 rfl) ?_
                refine mld_44 hx hb hK hP (vp_in_iff.mpr (by have h9 : w1.toInt = w1.toInt := rfl; omega)) dX12_whyNotTurn_120 (fun x10 ex10 => ?_)
                have rx10 : 0 ≤ x10.toInt ∧ x10.toInt ≤ 1 := by rw [ex10]; exact hI.2 44 _
                refine lv_if_ne (tgt := 127) hx hb dX12_whyNotTurn_121 (by decide +kernel) (fun c11 => ?_) (fun c11 => ?_)
                · have f11 := mt (ti_eq (a := x10.toInt) (b := 0) rfl (by decide +kernel)).mpr c11
                  refine lv_iload_n hx hb dX12_whyNotTurn_127 rfl (lv_at hl 1 rfl) ?_
                  refine lv_bipush (v := 6) hx hb dX12_whyNotTurn_128 (by decide +kernel) ?_
                  have jn12 : ∀ (H : Heap) (locs : List Loc) (ls : Array Slot), va_P D vwCl (mW o a t i q c d) H → va_S (ro s.heap.size) s.heap H locs → lv_has ls 4 [(0, .ref o), (1, .int v1), (2, .int w1), (3, .int w2)] → W p l e (headSpec wm_X12_whyNotTurn ({ frames := 2, cells := 0, slots := 0, locals := 44 })).room s m ([.ref o, .int v1, .int w1, .int w2] : List Value).toArray below meth cd H locs 0 0 (MQ below (va_Qi (fun (r : Int32) (_ : Unit) => (0 ≤ r.toInt ∧ r.toInt ≤ 18)) oA (ro s.heap.size)) ([.ref o, .int v1, .int w1, .int w2] : List Value).toArray s 0 0 (ro s.heap.size)) (F0 m 144 ls []) := by
                    intro H locs ls hP hS hl
                    refine lv_iload_n hx hb dX12_whyNotTurn_144 rfl (lv_at hl 1 rfl) ?_
                    refine lv_bipush (v := 6) hx hb dX12_whyNotTurn_145 (by decide +kernel) ?_
                    refine lv_icmp_le (tgt := 164) hx hb dX12_whyNotTurn_147 (by decide +kernel) (fun c13 => ?_) (fun c13 => ?_)
                    · have f13 := (ti_le (a := v1.toInt) (b := 6) rfl (by decide +kernel)).mp c13
                      refine lv_iconst (v := 0) hx hb dX12_whyNotTurn_164 (by decide +kernel) ?_
                      exact ro_iret hx hb hr hlocks hS dX12_whyNotTurn_165 (show 0 ≤ (0 : Int32).toInt ∧ (0 : Int32).toInt ≤ 18 from by decide +kernel)
                    · have f13 := mt (ti_le (a := v1.toInt) (b := 6) rfl (by decide +kernel)).mpr c13
                      refine lv_aload_n hx hb dX12_whyNotTurn_150 rfl (lv_at hl 0 rfl) ?_
                      refine lv_iload_n hx hb dX12_whyNotTurn_151 rfl (lv_at hl 2 rfl) ?_
                      refine ro_calli (va_runV (As := [.int w1]) (rest := []) ⟨hx, hb, hml, hown, hts⟩ (s_X12_keyOf l D H.size o a t i q c d w1 hI ) (cwV 1 hts gm_X12_whyNotTurn_X12_keyOf rfl rfl rfl (by decide +kernel) ⟨Nat.le_of_ble_eq_true rfl, Nat.le_of_ble_eq_true rfl⟩) (pA_V hK hP (ci := 12) (q0 := 0) rfl rfl) rfl rfl hl.1 rfl (lv_room (Nat.le_of_ble_eq_true rfl)) dX12_whyNotTurn_152 ⟨Nat.le_of_ble_eq_true rfl, Nat.le_of_ble_eq_true rfl⟩) hS hA hP (fun r14 u14 H locs hw14 hP hS => ?_)
                      have hw14 : (r14.toInt = -9 ∨ (0 ≤ r14.toInt ∧ r14.toInt ≤ 29)) := hw14
                      refine lv_iload_n hx hb dX12_whyNotTurn_155 rfl (lv_at hl 3 rfl) ?_
                      refine lv_icmp_eq (tgt := 164) hx hb dX12_whyNotTurn_156 (by decide +kernel) (fun c15 => ?_) (fun c15 => ?_)
                      · have f15 := (ti_eq (a := r14.toInt) (b := w2.toInt) rfl rfl).mp c15
                        refine lv_iconst (v := 0) hx hb dX12_whyNotTurn_164 (by decide +kernel) ?_
                        exact ro_iret hx hb hr hlocks hS dX12_whyNotTurn_165 (show 0 ≤ (0 : Int32).toInt ∧ (0 : Int32).toInt ≤ 18 from by decide +kernel)
                      · have f15 := mt (ti_eq (a := r14.toInt) (b := w2.toInt) rfl rfl).mpr c15
                        refine lv_bipush (v := 18) hx hb dX12_whyNotTurn_159 (by decide +kernel) ?_
                        refine lv_goto (tgt := 165) hx hb dX12_whyNotTurn_161 (by decide +kernel) ?_
                        exact ro_iret hx hb hr hlocks hS dX12_whyNotTurn_165 (show 0 ≤ (18 : Int32).toInt ∧ (18 : Int32).toInt ≤ 18 from by decide +kernel)
                  refine lv_icmp_le (tgt := 144) hx hb dX12_whyNotTurn_130 (by decide +kernel) (fun c16 => ?_) (fun c16 => ?_)
                  · have f16 := (ti_le (a := v1.toInt) (b := 6) rfl (by decide +kernel)).mp c16
                    exact jn12    _ _ _ hP hS (lv_sub hl [0, 1, 2, 3] rfl)
                  · have f16 := mt (ti_le (a := v1.toInt) (b := 6) rfl (by decide +kernel)).mpr c16
                    refine lv_aload_n hx hb dX12_whyNotTurn_133 rfl (lv_at hl 0 rfl) ?_
                    refine lv_iload_n hx hb dX12_whyNotTurn_134 rfl (lv_at hl 3 rfl) ?_
                    have rb22_i : (i 22).toInt = -9 ∨ (0 ≤ (i 22).toInt ∧ (i 22).toInt ≤ 29) := hI.1 22
                    refine ro_calli (va_runV (As := [.int w2]) (rest := []) ⟨hx, hb, hml, hown, hts⟩ (s_X12_holds l D H.size o a t i q c d w2 hI (show 0 ≤ w2.toInt ∧ w2.toInt ≤ 29 from by omega)) (cwV 1 hts gm_X12_whyNotTurn_X12_holds rfl rfl rfl (by decide +kernel) ⟨Nat.le_of_ble_eq_true rfl, Nat.le_of_ble_eq_true rfl⟩) (pA_V hK hP (ci := 12) (q0 := 0) rfl rfl) rfl rfl hl.1 rfl (lv_room (Nat.le_of_ble_eq_true rfl)) dX12_whyNotTurn_135 ⟨Nat.le_of_ble_eq_true rfl, Nat.le_of_ble_eq_true rfl⟩) hS hA hP (fun r17 u17 H locs hw17 hP hS => ?_)
                    have hw17 : ((0 ≤ r17.toInt ∧ r17.toInt ≤ 1) ∧ (Im (r17.toInt = 1) ((c 23 w2.toNatClampNeg).toInt = 2 ∧ (c 24 w2.toNatClampNeg).toInt = (i 22).toInt))) := hw17
                    obtain ⟨hw17, hr17_0⟩ := hw17
                    have hr17_0 : Im (r17.toInt = 1) ((c 23 w2.toNatClampNeg).toInt = 2 ∧ (c 24 w2.toNatClampNeg).toInt = (i 22).toInt) := hr17_0
                    refine lv_if_ne (tgt := 144) hx hb dX12_whyNotTurn_138 (by decide +kernel) (fun c18 => ?_) (fun c18 => ?_)
                    · have f18 := mt (ti_eq (a := r17.toInt) (b := 0) rfl (by decide +kernel)).mpr c18
                      exact jn12    _ _ _ hP hS (lv_sub hl [0, 1, 2, 3] rfl)
                    · have f18 := (ti_eq (a := r17.toInt) (b := 0) rfl (by decide +kernel)).mp c18
                      refine lv_bipush (v := 11) hx hb dX12_whyNotTurn_141 (by decide +kernel) ?_
                      exact ro_iret hx hb hr hlocks hS dX12_whyNotTurn_143 (show 0 ≤ (11 : Int32).toInt ∧ (11 : Int32).toInt ≤ 18 from by decide +kernel)
                · have f11 := (ti_eq (a := x10.toInt) (b := 0) rfl (by decide +kernel)).mp c11
                  refine lv_bipush (v := 8) hx hb dX12_whyNotTurn_124 (by decide +kernel) ?_
                  exact ro_iret hx hb hr hlocks hS dX12_whyNotTurn_126 (show 0 ≤ (8 : Int32).toInt ∧ (8 : Int32).toInt ≤ 18 from by decide +kernel)
              refine lv_icmp_ne (tgt := 115) hx hb dX12_whyNotTurn_100 (by decide +kernel) (fun c19 => ?_) (fun c19 => ?_)
              · have f19 := mt (ti_eq (a := v1.toInt) (b := 8) rfl (by decide +kernel)).mpr c19
                exact jn9    _ _ _ hP hS (lv_sub hl [0, 1, 2, 3] rfl)
              · have f19 := (ti_eq (a := v1.toInt) (b := 8) rfl (by decide +kernel)).mp c19
                refine lv_aload_n hx hb dX12_whyNotTurn_103 rfl (lv_at hl 0 rfl) ?_
                refine mget_25 hx hb hts (fun _ h => List.mem_cons_of_mem _ (List.mem_append_right _ h)) hown hK hP (hts (.fieldLink RX12 56 "TalePlayModel" "nOpen" "[Z") (List.mem_cons_of_mem _ (List.mem_append_left _ (List.mem_append_right _ (List.mem_of_getElem? (i := 13) rfl))))) dX12_whyNotTurn_104 ?_
                refine lv_iload_n hx hb dX12_whyNotTurn_107 rfl (lv_at hl 2 rfl) ?_
                refine mld_25 hx hb hK hP (vp_in_iff.mpr (by have h9 : w1.toInt = w1.toInt := rfl; omega)) dX12_whyNotTurn_108 (fun x20 ex20 => ?_)
                have rx20 : 0 ≤ x20.toInt ∧ x20.toInt ≤ 1 := by rw [ex20]; exact hI.2 25 _
                refine lv_if_eq (tgt := 115) hx hb dX12_whyNotTurn_109 (by decide +kernel) (fun c21 => ?_) (fun c21 => ?_)
                · have f21 := (ti_eq (a := x20.toInt) (b := 0) rfl (by decide +kernel)).mp c21
                  exact jn9    _ _ _ hP hS (lv_sub hl [0, 1, 2, 3] rfl)
                · have f21 := mt (ti_eq (a := x20.toInt) (b := 0) rfl (by decide +kernel)).mpr c21
                  refine lv_bipush (v := 15) hx hb dX12_whyNotTurn_112 (by decide +kernel) ?_
                  exact ro_iret hx hb hr hlocks hS dX12_whyNotTurn_114 (show 0 ≤ (15 : Int32).toInt ∧ (15 : Int32).toInt ≤ 18 from by decide +kernel)
            have jn22 : ∀ (H : Heap) (locs : List Loc) (ls : Array Slot), va_P D vwCl (mW o a t i q c d) H → va_S (ro s.heap.size) s.heap H locs → lv_has ls 4 [(0, .ref o), (1, .int v1), (2, .int w1), (3, .int w2)] → W p l e (headSpec wm_X12_whyNotTurn ({ frames := 2, cells := 0, slots := 0, locals := 44 })).room s m ([.ref o, .int v1, .int w1, .int w2] : List Value).toArray below meth cd H locs 0 0 (MQ below (va_Qi (fun (r : Int32) (_ : Unit) => (0 ≤ r.toInt ∧ r.toInt ≤ 18)) oA (ro s.heap.size)) ([.ref o, .int v1, .int w1, .int w2] : List Value).toArray s 0 0 (ro s.heap.size)) (F0 m 85 ls []) := by
              intro H locs ls hP hS hl
              refine lv_aload_n hx hb dX12_whyNotTurn_85 rfl (lv_at hl 0 rfl) ?_
              refine mget_26 hx hb hts (fun _ h => List.mem_cons_of_mem _ (List.mem_append_right _ h)) hown hK hP (hts (.fieldLink RX12 59 "TalePlayModel" "nLocked" "[Z") (List.mem_cons_of_mem _ (List.mem_append_left _ (List.mem_append_right _ (List.mem_of_getElem? (i := 14) rfl))))) dX12_whyNotTurn_86 ?_
              refine lv_iload_n hx hb dX12_whyNotTurn_89 rfl (lv_at hl 2 rfl) ?_
              refine mld_26 hx hb hK hP (vp_in_iff.mpr (by have h9 : w1.toInt = w1.toInt := rfl; omega)) dX12_whyNotTurn_90 (fun x23 ex23 => ?_)
              have rx23 : 0 ≤ x23.toInt ∧ x23.toInt ≤ 1 := by rw [ex23]; exact hI.2 26 _
              refine lv_if_eq (tgt := 97) hx hb dX12_whyNotTurn_91 (by decide +kernel) (fun c24 => ?_) (fun c24 => ?_)
              · have f24 := (ti_eq (a := x23.toInt) (b := 0) rfl (by decide +kernel)).mp c24
                exact jn8    _ _ _ hP hS (lv_sub hl [0, 1, 2, 3] rfl)
              · have f24 := mt (ti_eq (a := x23.toInt) (b := 0) rfl (by decide +kernel)).mpr c24
                refine lv_bipush (v := 16) hx hb dX12_whyNotTurn_94 (by decide +kernel) ?_
                exact ro_iret hx hb hr hlocks hS dX12_whyNotTurn_96 (show 0 ≤ (16 : Int32).toInt ∧ (16 : Int32).toInt ≤ 18 from by decide +kernel)
            refine lv_icmp_eq (tgt := 85) hx hb dX12_whyNotTurn_76 (by decide +kernel) (fun c25 => ?_) (fun c25 => ?_)
            · have f25 := (ti_eq (a := v1.toInt) (b := 5) rfl (by decide +kernel)).mp c25
              exact jn22    _ _ _ hP hS (lv_sub hl [0, 1, 2, 3] rfl)
            · have f25 := mt (ti_eq (a := v1.toInt) (b := 5) rfl (by decide +kernel)).mpr c25
              refine lv_iload_n hx hb dX12_whyNotTurn_79 rfl (lv_at hl 1 rfl) ?_
              refine lv_bipush (v := 8) hx hb dX12_whyNotTurn_80 (by decide +kernel) ?_
              refine lv_icmp_ne (tgt := 97) hx hb dX12_whyNotTurn_82 (by decide +kernel) (fun c26 => ?_) (fun c26 => ?_)
              · have f26 := mt (ti_eq (a := v1.toInt) (b := 8) rfl (by decide +kernel)).mpr c26
                exact jn8    _ _ _ hP hS (lv_sub hl [0, 1, 2, 3] rfl)
              · have f26 := (ti_eq (a := v1.toInt) (b := 8) rfl (by decide +kernel)).mp c26
                exact jn22    _ _ _ hP hS (lv_sub hl [0, 1, 2, 3] rfl)
          refine lv_icmp_ne (tgt := 74) hx hb dX12_whyNotTurn_59 (by decide +kernel) (fun c27 => ?_) (fun c27 => ?_)
          · have f27 := mt (ti_eq (a := v1.toInt) (b := 7) rfl (by decide +kernel)).mpr c27
            exact jn7    _ _ _ hP hS (lv_sub hl [0, 1, 2, 3] rfl)
          · have f27 := (ti_eq (a := v1.toInt) (b := 7) rfl (by decide +kernel)).mp c27
            refine lv_aload_n hx hb dX12_whyNotTurn_62 rfl (lv_at hl 0 rfl) ?_
            refine mget_26 hx hb hts (fun _ h => List.mem_cons_of_mem _ (List.mem_append_right _ h)) hown hK hP (hts (.fieldLink RX12 59 "TalePlayModel" "nLocked" "[Z") (List.mem_cons_of_mem _ (List.mem_append_left _ (List.mem_append_right _ (List.mem_of_getElem? (i := 14) rfl))))) dX12_whyNotTurn_63 ?_
            refine lv_iload_n hx hb dX12_whyNotTurn_66 rfl (lv_at hl 2 rfl) ?_
            refine mld_26 hx hb hK hP (vp_in_iff.mpr (by have h9 : w1.toInt = w1.toInt := rfl; omega)) dX12_whyNotTurn_67 (fun x28 ex28 => ?_)
            have rx28 : 0 ≤ x28.toInt ∧ x28.toInt ≤ 1 := by rw [ex28]; exact hI.2 26 _
            refine lv_if_ne (tgt := 74) hx hb dX12_whyNotTurn_68 (by decide +kernel) (fun c29 => ?_) (fun c29 => ?_)
            · have f29 := mt (ti_eq (a := x28.toInt) (b := 0) rfl (by decide +kernel)).mpr c29
              exact jn7    _ _ _ hP hS (lv_sub hl [0, 1, 2, 3] rfl)
            · have f29 := (ti_eq (a := x28.toInt) (b := 0) rfl (by decide +kernel)).mp c29
              refine lv_bipush (v := 17) hx hb dX12_whyNotTurn_71 (by decide +kernel) ?_
              exact ro_iret hx hb hr hlocks hS dX12_whyNotTurn_73 (show 0 ≤ (17 : Int32).toInt ∧ (17 : Int32).toInt ≤ 18 from by decide +kernel)
        refine lv_icmp_ne (tgt := 56) hx hb dX12_whyNotTurn_42 (by decide +kernel) (fun c30 => ?_) (fun c30 => ?_)
        · have f30 := mt (ti_eq (a := v1.toInt) (b := 6) rfl (by decide +kernel)).mpr c30
          exact jn6    _ _ _ hP hS (lv_sub hl [0, 1, 2, 3] rfl)
        · have f30 := (ti_eq (a := v1.toInt) (b := 6) rfl (by decide +kernel)).mp c30
          refine lv_aload_n hx hb dX12_whyNotTurn_45 rfl (lv_at hl 0 rfl) ?_
          refine mget_25 hx hb hts (fun _ h => List.mem_cons_of_mem _ (List.mem_append_right _ h)) hown hK hP (hts (.fieldLink RX12 56 "TalePlayModel" "nOpen" "[Z") (List.mem_cons_of_mem _ (List.mem_append_left _ (List.mem_append_right _ (List.mem_of_getElem? (i := 13) rfl))))) dX12_whyNotTurn_46 ?_
          refine lv_iload_n hx hb dX12_whyNotTurn_49 rfl (lv_at hl 2 rfl) ?_
          refine mld_25 hx hb hK hP (vp_in_iff.mpr (by have h9 : w1.toInt = w1.toInt := rfl; omega)) dX12_whyNotTurn_50 (fun x31 ex31 => ?_)
          have rx31 : 0 ≤ x31.toInt ∧ x31.toInt ≤ 1 := by rw [ex31]; exact hI.2 25 _
          refine lv_if_ne (tgt := 56) hx hb dX12_whyNotTurn_51 (by decide +kernel) (fun c32 => ?_) (fun c32 => ?_)
          · have f32 := mt (ti_eq (a := x31.toInt) (b := 0) rfl (by decide +kernel)).mpr c32
            exact jn6    _ _ _ hP hS (lv_sub hl [0, 1, 2, 3] rfl)
          · have f32 := (ti_eq (a := x31.toInt) (b := 0) rfl (by decide +kernel)).mp c32
            refine lv_iconst (v := 3) hx hb dX12_whyNotTurn_54 (by decide +kernel) ?_
            exact ro_iret hx hb hr hlocks hS dX12_whyNotTurn_55 (show 0 ≤ (3 : Int32).toInt ∧ (3 : Int32).toInt ≤ 18 from by decide +kernel)
      refine lv_icmp_ne (tgt := 39) hx hb dX12_whyNotTurn_24 (by decide +kernel) (fun c33 => ?_) (fun c33 => ?_)
      · have f33 := mt (ti_eq (a := v1.toInt) (b := 5) rfl (by decide +kernel)).mpr c33
        exact jn5    _ _ _ hP hS (lv_sub hl [0, 1, 2, 3] rfl)
      · have f33 := (ti_eq (a := v1.toInt) (b := 5) rfl (by decide +kernel)).mp c33
        refine lv_aload_n hx hb dX12_whyNotTurn_27 rfl (lv_at hl 0 rfl) ?_
        refine mget_25 hx hb hts (fun _ h => List.mem_cons_of_mem _ (List.mem_append_right _ h)) hown hK hP (hts (.fieldLink RX12 56 "TalePlayModel" "nOpen" "[Z") (List.mem_cons_of_mem _ (List.mem_append_left _ (List.mem_append_right _ (List.mem_of_getElem? (i := 13) rfl))))) dX12_whyNotTurn_28 ?_
        refine lv_iload_n hx hb dX12_whyNotTurn_31 rfl (lv_at hl 2 rfl) ?_
        refine mld_25 hx hb hK hP (vp_in_iff.mpr (by have h9 : w1.toInt = w1.toInt := rfl; omega)) dX12_whyNotTurn_32 (fun x34 ex34 => ?_)
        have rx34 : 0 ≤ x34.toInt ∧ x34.toInt ≤ 1 := by rw [ex34]; exact hI.2 25 _
        refine lv_if_eq (tgt := 39) hx hb dX12_whyNotTurn_33 (by decide +kernel) (fun c35 => ?_) (fun c35 => ?_)
        · have f35 := (ti_eq (a := x34.toInt) (b := 0) rfl (by decide +kernel)).mp c35
          exact jn5    _ _ _ hP hS (lv_sub hl [0, 1, 2, 3] rfl)
        · have f35 := mt (ti_eq (a := x34.toInt) (b := 0) rfl (by decide +kernel)).mpr c35
          refine lv_bipush (v := 15) hx hb dX12_whyNotTurn_36 (by decide +kernel) ?_
          exact ro_iret hx hb hr hlocks hS dX12_whyNotTurn_38 (show 0 ≤ (15 : Int32).toInt ∧ (15 : Int32).toInt ≤ 18 from by decide +kernel)
    · have f4 := (ti_eq (a := r3.toInt) (b := 0) rfl (by decide +kernel)).mp c4
      refine lv_bipush (v := 12) hx hb dX12_whyNotTurn_19 (by decide +kernel) ?_
      exact ro_iret hx hb hr hlocks hS dX12_whyNotTurn_21 (show 0 ≤ (12 : Int32).toInt ∧ (12 : Int32).toInt ≤ 18 from by decide +kernel)
  · have f2 := (ti_eq (a := x1.toInt) (b := 0) rfl (by decide +kernel)).mp c2
    refine lv_iconst (v := 4) hx hb dX12_whyNotTurn_9 (by decide +kernel) ?_
    exact ro_iret hx hb hr hlocks hS dX12_whyNotTurn_10 (show 0 ≤ (4 : Int32).toInt ∧ (4 : Int32).toInt ≤ 18 from by decide +kernel)

def wm_X12_whyNotEnter : List Cond := .code yX12_whyNotEnter cX12_whyNotEnter 2 (some .int) :: ((([.fieldLink RX12 86 "TalePlayModel" "seen" "[Z", .fieldLink RX12 98 "TalePlayModel" "isBox" "[Z", .fieldLink RX12 155 "TalePlayModel" "player" "I", .methodLink RX12 352 yX12_isUpFrom, .instanceMethod yX12_isUpFrom, .selects RX12 yX12_isUpFrom yX12_isUpFrom, .initialized RX12, .code yX12_isUpFrom cX12_isUpFrom 4 (some .boolean), .fieldLink RX12 50 "TalePlayModel" "nForm" "[I", .fieldLink RX12 53 "TalePlayModel" "nAt" "[I", .fieldLink RX12 89 "TalePlayModel" "reached" "[Z", .fieldLink RX12 56 "TalePlayModel" "nOpen" "[Z", .methodLink RX12 184 yX12_isOf, .instanceMethod yX12_isOf, .selects RX12 yX12_isOf yX12_isOf, .code yX12_isOf cX12_isOf 4 (some .boolean)] : List Cond) ++ ([.fieldLink RX12 19 "TalePlayModel" "kindOf" "[I", .fieldLink RX12 13 "TalePlayModel" "parentOf" "[I"] : List Cond)) ++ wsX120)
set_option maxRecDepth 20000 in
theorem gm_X12_whyNotEnter_X12_isUpFrom : GoodIn wm_X12_whyNotEnter (wsV RX12 352 RX12 yX12_isUpFrom wm_X12_isUpFrom) := goodIn_w (List.forall_mem_append.mpr ⟨List.forall_mem_cons.mpr ⟨List.mem_cons_of_mem _ (List.mem_append_left _ (List.mem_append_left _ (List.mem_of_getElem? (i := 3) rfl))), List.forall_mem_cons.mpr ⟨List.mem_cons_of_mem _ (List.mem_append_left _ (List.mem_append_left _ (List.mem_of_getElem? (i := 4) rfl))), List.forall_mem_cons.mpr ⟨List.mem_cons_of_mem _ (List.mem_append_left _ (List.mem_append_left _ (List.mem_of_getElem? (i := 5) rfl))), List.forall_mem_cons.mpr ⟨List.mem_cons_of_mem _ (List.mem_append_left _ (List.mem_append_left _ (List.mem_of_getElem? (i := 6) rfl))), (fun _ h => absurd h List.not_mem_nil)⟩⟩⟩⟩, List.forall_mem_cons.mpr ⟨List.mem_cons_of_mem _ (List.mem_append_left _ (List.mem_append_left _ (List.mem_of_getElem? (i := 7) rfl))), List.forall_mem_append.mpr ⟨List.forall_mem_cons.mpr ⟨List.mem_cons_of_mem _ (List.mem_append_left _ (List.mem_append_left _ (List.mem_of_getElem? (i := 8) rfl))), List.forall_mem_cons.mpr ⟨List.mem_cons_of_mem _ (List.mem_append_left _ (List.mem_append_left _ (List.mem_of_getElem? (i := 9) rfl))), (fun _ h => absurd h List.not_mem_nil)⟩⟩, (fun _ h => List.mem_cons_of_mem _ (List.mem_append_right _ h))⟩⟩⟩) (by decide +kernel)
set_option maxRecDepth 20000 in
theorem gm_X12_whyNotEnter_X12_isOf : GoodIn wm_X12_whyNotEnter (wsV RX12 184 RX12 yX12_isOf wm_X12_isOf) := goodIn_w (List.forall_mem_append.mpr ⟨List.forall_mem_cons.mpr ⟨List.mem_cons_of_mem _ (List.mem_append_left _ (List.mem_append_left _ (List.mem_of_getElem? (i := 12) rfl))), List.forall_mem_cons.mpr ⟨List.mem_cons_of_mem _ (List.mem_append_left _ (List.mem_append_left _ (List.mem_of_getElem? (i := 13) rfl))), List.forall_mem_cons.mpr ⟨List.mem_cons_of_mem _ (List.mem_append_left _ (List.mem_append_left _ (List.mem_of_getElem? (i := 14) rfl))), List.forall_mem_cons.mpr ⟨List.mem_cons_of_mem _ (List.mem_append_left _ (List.mem_append_left _ (List.mem_of_getElem? (i := 6) rfl))), (fun _ h => absurd h List.not_mem_nil)⟩⟩⟩⟩, List.forall_mem_cons.mpr ⟨List.mem_cons_of_mem _ (List.mem_append_left _ (List.mem_append_left _ (List.mem_of_getElem? (i := 15) rfl))), List.forall_mem_append.mpr ⟨List.forall_mem_cons.mpr ⟨List.mem_cons_of_mem _ (List.mem_append_left _ (List.mem_append_right _ (List.mem_of_getElem? (i := 0) rfl))), List.forall_mem_cons.mpr ⟨List.mem_cons_of_mem _ (List.mem_append_left _ (List.mem_append_right _ (List.mem_of_getElem? (i := 1) rfl))), (fun _ h => absurd h List.not_mem_nil)⟩⟩, (fun _ h => List.mem_cons_of_mem _ (List.mem_append_right _ h))⟩⟩⟩) (by decide +kernel)
set_option maxHeartbeats 4000000 in
set_option maxRecDepth 100000 in
theorem s_X12_whyNotEnter (l : Launch) (D : va_G) (sz : Nat) (o : Nat) (a : Nat → Nat) (t : Nat → ClassId) (i : Nat → Int32) (q : Int64) (c : Nat → Nat → Int32) (d : Nat → Nat → Int64) (w : Int32) (hI : mInv i c) (hw : 0 ≤ w.toInt ∧ w.toInt < (i 5).toInt) (hs_T : TI (i 5).toInt (fun z => Kd (c 3) (c 6) z 0) (i 22).toInt (c 23) (c 24)) (hs_C : Cc (c 3) (c 6) (c 47) (c 48) (c 49) (i 5).toInt) : Met l yX12_whyNotEnter wm_X12_whyNotEnter ({ frames := 1, cells := 0, slots := 0, locals := 23 }) (va_Pc [.ref o, .int w] (pA D sz (mW o a t i q c d) (mT t))) (va_Qi (fun (r : Int32) (_ : Unit) => ((0 ≤ r.toInt ∧ r.toInt ≤ 20) ∧ (Im (r.toInt = 0) ((Kd (c 3) (c 6) w.toInt 3 ∨ Kd (c 3) (c 6) w.toInt 4) ∧ ¬ Ch (nF (i 5).toInt (c 23) (c 24)) (nF (i 5).toInt (c 23) (c 24) w.toInt) (i 22).toInt ∧ (c 44 w.toNatClampNeg).toInt = 1)))) oA (ro sz)) 0 0 (ro sz) := by
  refine Met.ofW (cc := cX12_whyNotEnter) (maxL := 2) (ret := (some .int)) (by decide +kernel) rfl ?_
  intro p e s m args below meth cd s₁ B hml hv
  obtain ⟨rfl, hsz, hP, hK⟩ := hv
  have hx := B.exec
  have hb := B.bytes
  have hr := B.returns
  have hts := atoms_spec (ws := wm_X12_whyNotEnter) B.pre
  have hown : s.vm.findClass RX12 = some m.cls := findClass_of_methodNamed B.named
  have hlocks := B.notSynchronized
  subst hsz
  have hA : ∀ q : Nat, s.heap.size ≤ q → ro s.heap.size q := fun _ h => h
  have hS : va_S (ro s.heap.size) s.heap s.heap [] := va_S.rf
  have hl := lv_entry ([.ref o, .int w]) (n := 2) (Nat.le_of_ble_eq_true rfl)
  rw [lg_entry_eq]
  generalize (lg_sl ([.ref o, .int w]) ++ List.replicate (2 - (lg_sl ([.ref o, .int w])).length) Slot.unset).toArray = ls at hl ⊢
  have hl : lv_has ls 2 [(0, .ref o), (1, .int w)] := hl
  have rb5_i : 0 ≤ (i 5).toInt ∧ (i 5).toInt ≤ 30 := hI.1 5
  have rb22_i : (i 22).toInt = -9 ∨ (0 ≤ (i 22).toInt ∧ (i 22).toInt ≤ 29) := hI.1 22
  have hTt := hs_T
  obtain ⟨⟨hp0, hp1, hp2⟩, hT2, hT3, ⟨rk, hrk⟩, rr, hq0, hq1, hq2, hq3⟩ := hTt
  have hsp : Sp (nF (i 5).toInt (c 23) (c 24)) := nF_Sp (by omega) hT2
  have hpl := TI_p hs_T
  have hpa : 0 ≤ (c 24 (i 22).toNatClampNeg).toInt ∧ (c 24 (i 22).toNatClampNeg).toInt < (i 5).toInt := hT2 _ hp0 hp1 hpl
  refine lv_aload_n hx hb dX12_whyNotEnter_0 rfl (lv_at hl 0 rfl) ?_
  refine mget_43 hx hb hts (fun _ h => List.mem_cons_of_mem _ (List.mem_append_right _ h)) hown hK hP (hts (.fieldLink RX12 86 "TalePlayModel" "seen" "[Z") (List.mem_cons_of_mem _ (List.mem_append_left _ (List.mem_append_left _ (List.mem_of_getElem? (i := 0) rfl))))) dX12_whyNotEnter_1 ?_
  refine lv_iload_n hx hb dX12_whyNotEnter_4 rfl (lv_at hl 1 rfl) ?_
  refine mld_43 hx hb hK hP (vp_in_iff.mpr (by have h9 : w.toInt = w.toInt := rfl; omega)) dX12_whyNotEnter_5 (fun x1 ex1 => ?_)
  have rx1 : 0 ≤ x1.toInt ∧ x1.toInt ≤ 1 := by rw [ex1]; exact hI.2 43 _
  refine lv_if_ne (tgt := 11) hx hb dX12_whyNotEnter_6 (by decide +kernel) (fun c2 => ?_) (fun c2 => ?_)
  · have f2 := mt (ti_eq (a := x1.toInt) (b := 0) rfl (by decide +kernel)).mpr c2
    refine lv_aload_n hx hb dX12_whyNotEnter_11 rfl (lv_at hl 0 rfl) ?_
    refine mget_47 hx hb hts (fun _ h => List.mem_cons_of_mem _ (List.mem_append_right _ h)) hown hK hP (hts (.fieldLink RX12 98 "TalePlayModel" "isBox" "[Z") (List.mem_cons_of_mem _ (List.mem_append_left _ (List.mem_append_left _ (List.mem_of_getElem? (i := 1) rfl))))) dX12_whyNotEnter_12 ?_
    refine lv_iload_n hx hb dX12_whyNotEnter_15 rfl (lv_at hl 1 rfl) ?_
    refine mld_47 hx hb hK hP (vp_in_iff.mpr (by have h9 : w.toInt = w.toInt := rfl; omega)) dX12_whyNotEnter_16 (fun x3 ex3 => ?_)
    have rx3 : 0 ≤ x3.toInt ∧ x3.toInt ≤ 1 := by rw [ex3]; exact hI.2 47 _
    have gx3 : (c 47 (w : Int32).toNatClampNeg).toInt = x3.toInt := by rw [ex3]
    have jn4 : (Kd (c 3) (c 6) w.toInt 3 ∨ Kd (c 3) (c 6) w.toInt 4) → ∀ (H : Heap) (locs : List Loc) (ls : Array Slot), va_P D vwCl (mW o a t i q c d) H → va_S (ro s.heap.size) s.heap H locs → lv_has ls 2 [(0, .ref o), (1, .int w)] → W p l e (headSpec wm_X12_whyNotEnter ({ frames := 1, cells := 0, slots := 0, locals := 23 })).room s m ([.ref o, .int w] : List Value).toArray below meth cd H locs 0 0 (MQ below (va_Qi (fun (r : Int32) (_ : Unit) => ((0 ≤ r.toInt ∧ r.toInt ≤ 20) ∧ (Im (r.toInt = 0) ((Kd (c 3) (c 6) w.toInt 3 ∨ Kd (c 3) (c 6) w.toInt 4) ∧ ¬ Ch (nF (i 5).toInt (c 23) (c 24)) (nF (i 5).toInt (c 23) (c 24) w.toInt) (i 22).toInt ∧ (c 44 w.toNatClampNeg).toInt = 1)))) oA (ro s.heap.size)) ([.ref o, .int w] : List Value).toArray s 0 0 (ro s.heap.size)) (F0 m 32 ls []) := by
      intro hz4_0 H locs ls hP hS hl
      refine lv_aload_n hx hb dX12_whyNotEnter_32 rfl (lv_at hl 0 rfl) ?_
      refine lv_aload_n hx hb dX12_whyNotEnter_33 rfl (lv_at hl 0 rfl) ?_
      refine mget_22 (v := (i 22)) rfl hx hb hts (fun _ h => List.mem_cons_of_mem _ (List.mem_append_right _ h)) hown hK hP (hts (.fieldLink RX12 155 "TalePlayModel" "player" "I") (List.mem_cons_of_mem _ (List.mem_append_left _ (List.mem_append_left _ (List.mem_of_getElem? (i := 2) rfl))))) dX12_whyNotEnter_34 ?_
      refine lv_iload_n hx hb dX12_whyNotEnter_37 rfl (lv_at hl 1 rfl) ?_
      refine ro_calli (va_runV (As := [.int (i 22), .int w]) (rest := []) ⟨hx, hb, hml, hown, hts⟩ (s_X12_isUpFrom l D H.size o a t i q c d (i 22) w hI (show 0 ≤ (i 22).toInt ∧ (i 22).toInt < ((i 5) : Int32).toInt from by omega) (show 0 ≤ w.toInt ∧ w.toInt < ((i 5) : Int32).toInt from by omega) hs_T) (cwV 2 hts gm_X12_whyNotEnter_X12_isUpFrom rfl rfl rfl (by decide +kernel) ⟨Nat.le_of_ble_eq_true rfl, Nat.le_of_ble_eq_true rfl⟩) (pA_V hK hP (ci := 12) (q0 := 0) rfl rfl) rfl rfl hl.1 rfl (lv_room (Nat.le_of_ble_eq_true rfl)) dX12_whyNotEnter_38 ⟨Nat.le_of_ble_eq_true rfl, Nat.le_of_ble_eq_true rfl⟩) hS hA hP (fun r5 u5 H locs hw5 hP hS => ?_)
      have hw5 : ((0 ≤ r5.toInt ∧ r5.toInt ≤ 1) ∧ (Im (r5.toInt = 0) (¬ Ch (nF (i 5).toInt (c 23) (c 24)) (nF (i 5).toInt (c 23) (c 24) w.toInt) (i 22).toInt))) := hw5
      obtain ⟨hw5, hr5_0⟩ := hw5
      have hr5_0 : Im (r5.toInt = 0) (¬ Ch (nF (i 5).toInt (c 23) (c 24)) (nF (i 5).toInt (c 23) (c 24) w.toInt) (i 22).toInt) := hr5_0
      refine lv_if_eq (tgt := 47) hx hb dX12_whyNotEnter_41 (by decide +kernel) (fun c6 => ?_) (fun c6 => ?_)
      · have f6 := (ti_eq (a := r5.toInt) (b := 0) rfl (by decide +kernel)).mp c6
        have hUp := hr5_0
        refine lv_aload_n hx hb dX12_whyNotEnter_47 rfl (lv_at hl 0 rfl) ?_
        refine mget_47 hx hb hts (fun _ h => List.mem_cons_of_mem _ (List.mem_append_right _ h)) hown hK hP (hts (.fieldLink RX12 98 "TalePlayModel" "isBox" "[Z") (List.mem_cons_of_mem _ (List.mem_append_left _ (List.mem_append_left _ (List.mem_of_getElem? (i := 1) rfl))))) dX12_whyNotEnter_48 ?_
        refine lv_iload_n hx hb dX12_whyNotEnter_51 rfl (lv_at hl 1 rfl) ?_
        refine mld_47 hx hb hK hP (vp_in_iff.mpr (by have h9 : w.toInt = w.toInt := rfl; omega)) dX12_whyNotEnter_52 (fun x7 ex7 => ?_)
        have rx7 : 0 ≤ x7.toInt ∧ x7.toInt ≤ 1 := by rw [ex7]; exact hI.2 47 _
        have gx7 : (c 47 (w : Int32).toNatClampNeg).toInt = x7.toInt := by rw [ex7]
        have jn8 : ∀ (H : Heap) (locs : List Loc) (ls : Array Slot), va_P D vwCl (mW o a t i q c d) H → va_S (ro s.heap.size) s.heap H locs → lv_has ls 2 [(0, .ref o), (1, .int w)] → W p l e (headSpec wm_X12_whyNotEnter ({ frames := 1, cells := 0, slots := 0, locals := 23 })).room s m ([.ref o, .int w] : List Value).toArray below meth cd H locs 0 0 (MQ below (va_Qi (fun (r : Int32) (_ : Unit) => ((0 ≤ r.toInt ∧ r.toInt ≤ 20) ∧ (Im (r.toInt = 0) ((Kd (c 3) (c 6) w.toInt 3 ∨ Kd (c 3) (c 6) w.toInt 4) ∧ ¬ Ch (nF (i 5).toInt (c 23) (c 24)) (nF (i 5).toInt (c 23) (c 24) w.toInt) (i 22).toInt ∧ (c 44 w.toNatClampNeg).toInt = 1)))) oA (ro s.heap.size)) ([.ref o, .int w] : List Value).toArray s 0 0 (ro s.heap.size)) (F0 m 67 ls []) := by
          intro H locs ls hP hS hl
          refine lv_aload_n hx hb dX12_whyNotEnter_67 rfl (lv_at hl 0 rfl) ?_
          refine mget_44 hx hb hts (fun _ h => List.mem_cons_of_mem _ (List.mem_append_right _ h)) hown hK hP (hts (.fieldLink RX12 89 "TalePlayModel" "reached" "[Z") (List.mem_cons_of_mem _ (List.mem_append_left _ (List.mem_append_left _ (List.mem_of_getElem? (i := 10) rfl))))) dX12_whyNotEnter_68 ?_
          refine lv_iload_n hx hb dX12_whyNotEnter_71 rfl (lv_at hl 1 rfl) ?_
          refine mld_44 hx hb hK hP (vp_in_iff.mpr (by have h9 : w.toInt = w.toInt := rfl; omega)) dX12_whyNotEnter_72 (fun x9 ex9 => ?_)
          have rx9 : 0 ≤ x9.toInt ∧ x9.toInt ≤ 1 := by rw [ex9]; exact hI.2 44 _
          have gx9 : (c 44 (w : Int32).toNatClampNeg).toInt = x9.toInt := by rw [ex9]
          refine lv_if_ne (tgt := 79) hx hb dX12_whyNotEnter_73 (by decide +kernel) (fun c10 => ?_) (fun c10 => ?_)
          · have f10 := mt (ti_eq (a := x9.toInt) (b := 0) rfl (by decide +kernel)).mpr c10
            refine lv_aload_n hx hb dX12_whyNotEnter_79 rfl (lv_at hl 0 rfl) ?_
            refine mget_24 hx hb hts (fun _ h => List.mem_cons_of_mem _ (List.mem_append_right _ h)) hown hK hP (hts (.fieldLink RX12 53 "TalePlayModel" "nAt" "[I") (List.mem_cons_of_mem _ (List.mem_append_left _ (List.mem_append_left _ (List.mem_of_getElem? (i := 9) rfl))))) dX12_whyNotEnter_80 ?_
            refine lv_aload_n hx hb dX12_whyNotEnter_83 rfl (lv_at hl 0 rfl) ?_
            refine mget_22 (v := (i 22)) rfl hx hb hts (fun _ h => List.mem_cons_of_mem _ (List.mem_append_right _ h)) hown hK hP (hts (.fieldLink RX12 155 "TalePlayModel" "player" "I") (List.mem_cons_of_mem _ (List.mem_append_left _ (List.mem_append_left _ (List.mem_of_getElem? (i := 2) rfl))))) dX12_whyNotEnter_84 ?_
            refine mld_24 hx hb hK hP (vp_in_iff.mpr (by have h9 : (i 22).toInt = (i 22).toInt := rfl; omega)) dX12_whyNotEnter_87 (fun x11 ex11 => ?_)
            have rx11 : x11.toInt = -9 ∨ (0 ≤ x11.toInt ∧ x11.toInt ≤ 29) := by rw [ex11]; exact hI.2 24 _
            refine lv_iload_n hx hb dX12_whyNotEnter_88 rfl (lv_at hl 1 rfl) ?_
            refine lv_icmp_ne (tgt := 97) hx hb dX12_whyNotEnter_89 (by decide +kernel) (fun c12 => ?_) (fun c12 => ?_)
            · have f12 := mt (ti_eq (a := x11.toInt) (b := w.toInt) rfl rfl).mpr c12
              refine lv_iconst (v := 0) hx hb dX12_whyNotEnter_97 (by decide +kernel) ?_
              exact ro_iret hx hb hr hlocks hS dX12_whyNotEnter_98 ⟨(show 0 ≤ (0 : Int32).toInt ∧ (0 : Int32).toInt ≤ 20 from by decide +kernel), (show Im ((0 : Int32).toInt = 0) ((Kd (c 3) (c 6) w.toInt 3 ∨ Kd (c 3) (c 6) w.toInt 4) ∧ ¬ Ch (nF (i 5).toInt (c 23) (c 24)) (nF (i 5).toInt (c 23) (c 24) w.toInt) (i 22).toInt ∧ (c 44 w.toNatClampNeg).toInt = 1) from fun _ => ⟨hz4_0, hUp (by omega), by omega⟩)⟩
            · have f12 := (ti_eq (a := x11.toInt) (b := w.toInt) rfl rfl).mp c12
              refine lv_bipush (v := 20) hx hb dX12_whyNotEnter_92 (by decide +kernel) ?_
              refine lv_goto (tgt := 98) hx hb dX12_whyNotEnter_94 (by decide +kernel) ?_
              exact ro_iret hx hb hr hlocks hS dX12_whyNotEnter_98 ⟨(show 0 ≤ (20 : Int32).toInt ∧ (20 : Int32).toInt ≤ 20 from by decide +kernel), (show Im ((20 : Int32).toInt = 0) ((Kd (c 3) (c 6) w.toInt 3 ∨ Kd (c 3) (c 6) w.toInt 4) ∧ ¬ Ch (nF (i 5).toInt (c 23) (c 24)) (nF (i 5).toInt (c 23) (c 24) w.toInt) (i 22).toInt ∧ (c 44 w.toNatClampNeg).toInt = 1) from fun h9 => absurd h9 (by decide +kernel))⟩
          · have f10 := (ti_eq (a := x9.toInt) (b := 0) rfl (by decide +kernel)).mp c10
            refine lv_bipush (v := 8) hx hb dX12_whyNotEnter_76 (by decide +kernel) ?_
            exact ro_iret hx hb hr hlocks hS dX12_whyNotEnter_78 ⟨(show 0 ≤ (8 : Int32).toInt ∧ (8 : Int32).toInt ≤ 20 from by decide +kernel), (show Im ((8 : Int32).toInt = 0) ((Kd (c 3) (c 6) w.toInt 3 ∨ Kd (c 3) (c 6) w.toInt 4) ∧ ¬ Ch (nF (i 5).toInt (c 23) (c 24)) (nF (i 5).toInt (c 23) (c 24) w.toInt) (i 22).toInt ∧ (c 44 w.toNatClampNeg).toInt = 1) from fun h9 => absurd h9 (by decide +kernel))⟩
        refine lv_if_eq (tgt := 67) hx hb dX12_whyNotEnter_53 (by decide +kernel) (fun c13 => ?_) (fun c13 => ?_)
        · have f13 := (ti_eq (a := x7.toInt) (b := 0) rfl (by decide +kernel)).mp c13
          exact jn8    _ _ _ hP hS (lv_sub hl [0, 1] rfl)
        · have f13 := mt (ti_eq (a := x7.toInt) (b := 0) rfl (by decide +kernel)).mpr c13
          refine lv_aload_n hx hb dX12_whyNotEnter_56 rfl (lv_at hl 0 rfl) ?_
          refine mget_25 hx hb hts (fun _ h => List.mem_cons_of_mem _ (List.mem_append_right _ h)) hown hK hP (hts (.fieldLink RX12 56 "TalePlayModel" "nOpen" "[Z") (List.mem_cons_of_mem _ (List.mem_append_left _ (List.mem_append_left _ (List.mem_of_getElem? (i := 11) rfl))))) dX12_whyNotEnter_57 ?_
          refine lv_iload_n hx hb dX12_whyNotEnter_60 rfl (lv_at hl 1 rfl) ?_
          refine mld_25 hx hb hK hP (vp_in_iff.mpr (by have h9 : w.toInt = w.toInt := rfl; omega)) dX12_whyNotEnter_61 (fun x14 ex14 => ?_)
          have rx14 : 0 ≤ x14.toInt ∧ x14.toInt ≤ 1 := by rw [ex14]; exact hI.2 25 _
          refine lv_if_ne (tgt := 67) hx hb dX12_whyNotEnter_62 (by decide +kernel) (fun c15 => ?_) (fun c15 => ?_)
          · have f15 := mt (ti_eq (a := x14.toInt) (b := 0) rfl (by decide +kernel)).mpr c15
            exact jn8    _ _ _ hP hS (lv_sub hl [0, 1] rfl)
          · have f15 := (ti_eq (a := x14.toInt) (b := 0) rfl (by decide +kernel)).mp c15
            refine lv_iconst (v := 3) hx hb dX12_whyNotEnter_65 (by decide +kernel) ?_
            exact ro_iret hx hb hr hlocks hS dX12_whyNotEnter_66 ⟨(show 0 ≤ (3 : Int32).toInt ∧ (3 : Int32).toInt ≤ 20 from by decide +kernel), (show Im ((3 : Int32).toInt = 0) ((Kd (c 3) (c 6) w.toInt 3 ∨ Kd (c 3) (c 6) w.toInt 4) ∧ ¬ Ch (nF (i 5).toInt (c 23) (c 24)) (nF (i 5).toInt (c 23) (c 24) w.toInt) (i 22).toInt ∧ (c 44 w.toNatClampNeg).toInt = 1) from fun h9 => absurd h9 (by decide +kernel))⟩
      · have f6 := mt (ti_eq (a := r5.toInt) (b := 0) rfl (by decide +kernel)).mpr c6
        refine lv_bipush (v := 13) hx hb dX12_whyNotEnter_44 (by decide +kernel) ?_
        exact ro_iret hx hb hr hlocks hS dX12_whyNotEnter_46 ⟨(show 0 ≤ (13 : Int32).toInt ∧ (13 : Int32).toInt ≤ 20 from by decide +kernel), (show Im ((13 : Int32).toInt = 0) ((Kd (c 3) (c 6) w.toInt 3 ∨ Kd (c 3) (c 6) w.toInt 4) ∧ ¬ Ch (nF (i 5).toInt (c 23) (c 24)) (nF (i 5).toInt (c 23) (c 24) w.toInt) (i 22).toInt ∧ (c 44 w.toNatClampNeg).toInt = 1) from fun h9 => absurd h9 (by decide +kernel))⟩
    refine lv_if_ne (tgt := 32) hx hb dX12_whyNotEnter_17 (by decide +kernel) (fun c16 => ?_) (fun c16 => ?_)
    · have f16 := mt (ti_eq (a := x3.toInt) (b := 0) rfl (by decide +kernel)).mpr c16
      exact jn4   (show Kd (c 3) (c 6) w.toInt 3 ∨ Kd (c 3) (c 6) w.toInt 4 from Or.inl ((hs_C w.toInt (by omega) (by omega)).2.1 (by show (c 47 w.toNatClampNeg).toInt = 1; omega))) _ _ _ hP hS (lv_sub hl [0, 1] rfl)
    · have f16 := (ti_eq (a := x3.toInt) (b := 0) rfl (by decide +kernel)).mp c16
      refine lv_aload_n hx hb dX12_whyNotEnter_20 rfl (lv_at hl 0 rfl) ?_
      refine lv_iload_n hx hb dX12_whyNotEnter_21 rfl (lv_at hl 1 rfl) ?_
      refine lv_iconst (v := 4) hx hb dX12_whyNotEnter_22 (by decide +kernel) ?_
      refine ro_calli (va_runV (As := [.int w, .int 4]) (rest := []) ⟨hx, hb, hml, hown, hts⟩ (s_X12_isOf l D s.heap.size o a t i q c d w 4 hI (show 0 ≤ w.toInt ∧ w.toInt ≤ 29 from by have h91 : (4 : Int32).toInt = 4 := (by decide +kernel); omega) (show 0 ≤ 4 from by decide +kernel)) (cwV 2 hts gm_X12_whyNotEnter_X12_isOf rfl rfl rfl (by decide +kernel) ⟨Nat.le_of_ble_eq_true rfl, Nat.le_of_ble_eq_true rfl⟩) (pA_V hK hP (ci := 12) (q0 := 0) rfl rfl) rfl rfl hl.1 rfl (lv_room (Nat.le_of_ble_eq_true rfl)) dX12_whyNotEnter_23 ⟨Nat.le_of_ble_eq_true rfl, Nat.le_of_ble_eq_true rfl⟩) hS hA hP (fun r17 u17 H locs hw17 hP hS => ?_)
      have hw17 : ((0 ≤ r17.toInt ∧ r17.toInt ≤ 1) ∧ (Sm r17 (Kd (c 3) (c 6) w.toInt 4))) := hw17
      obtain ⟨hw17, hr17_0⟩ := hw17
      have hr17_0 : Sm r17 (Kd (c 3) (c 6) w.toInt 4) := hr17_0
      refine lv_if_ne (tgt := 32) hx hb dX12_whyNotEnter_26 (by decide +kernel) (fun c18 => ?_) (fun c18 => ?_)
      · have f18 := mt (ti_eq (a := r17.toInt) (b := 0) rfl (by decide +kernel)).mpr c18
        have s18 := sm_t hr17_0 c18
        exact jn4   (show Kd (c 3) (c 6) w.toInt 3 ∨ Kd (c 3) (c 6) w.toInt 4 from Or.inr s18) _ _ _ hP hS (lv_sub hl [0, 1] rfl)
      · have f18 := (ti_eq (a := r17.toInt) (b := 0) rfl (by decide +kernel)).mp c18
        have s18 := sm_f hr17_0 c18
        refine lv_bipush (v := 12) hx hb dX12_whyNotEnter_29 (by decide +kernel) ?_
        exact ro_iret hx hb hr hlocks hS dX12_whyNotEnter_31 ⟨(show 0 ≤ (12 : Int32).toInt ∧ (12 : Int32).toInt ≤ 20 from by decide +kernel), (show Im ((12 : Int32).toInt = 0) ((Kd (c 3) (c 6) w.toInt 3 ∨ Kd (c 3) (c 6) w.toInt 4) ∧ ¬ Ch (nF (i 5).toInt (c 23) (c 24)) (nF (i 5).toInt (c 23) (c 24) w.toInt) (i 22).toInt ∧ (c 44 w.toNatClampNeg).toInt = 1) from fun h9 => absurd h9 (by decide +kernel))⟩
  · have f2 := (ti_eq (a := x1.toInt) (b := 0) rfl (by decide +kernel)).mp c2
    refine lv_iconst (v := 4) hx hb dX12_whyNotEnter_9 (by decide +kernel) ?_
    exact ro_iret hx hb hr hlocks hS dX12_whyNotEnter_10 ⟨(show 0 ≤ (4 : Int32).toInt ∧ (4 : Int32).toInt ≤ 20 from by decide +kernel), (show Im ((4 : Int32).toInt = 0) ((Kd (c 3) (c 6) w.toInt 3 ∨ Kd (c 3) (c 6) w.toInt 4) ∧ ¬ Ch (nF (i 5).toInt (c 23) (c 24)) (nF (i 5).toInt (c 23) (c 24) w.toInt) (i 22).toInt ∧ (c 44 w.toNatClampNeg).toInt = 1) from fun h9 => absurd h9 (by decide +kernel))⟩

def wm_X12_whyNotLeave : List Cond := .code yX12_whyNotLeave cX12_whyNotLeave 2 (some .int) :: (([.methodLink RX12 348 yX12_isInRoom, .instanceMethod yX12_isInRoom, .selects RX12 yX12_isInRoom yX12_isInRoom, .initialized RX12, .code yX12_isInRoom cX12_isInRoom 1 (some .boolean), .fieldLink RX12 50 "TalePlayModel" "nForm" "[I", .fieldLink RX12 155 "TalePlayModel" "player" "I", .fieldLink RX12 101 "TalePlayModel" "isRoom" "[Z", .fieldLink RX12 53 "TalePlayModel" "nAt" "[I", .fieldLink RX12 98 "TalePlayModel" "isBox" "[Z", .fieldLink RX12 56 "TalePlayModel" "nOpen" "[Z"] : List Cond) ++ wsX120)
set_option maxRecDepth 20000 in
theorem gm_X12_whyNotLeave_X12_isInRoom : GoodIn wm_X12_whyNotLeave (wsV RX12 348 RX12 yX12_isInRoom wm_X12_isInRoom) := goodIn_w (List.forall_mem_append.mpr ⟨List.forall_mem_cons.mpr ⟨List.mem_cons_of_mem _ (List.mem_append_left _ (List.mem_of_getElem? (i := 0) rfl)), List.forall_mem_cons.mpr ⟨List.mem_cons_of_mem _ (List.mem_append_left _ (List.mem_of_getElem? (i := 1) rfl)), List.forall_mem_cons.mpr ⟨List.mem_cons_of_mem _ (List.mem_append_left _ (List.mem_of_getElem? (i := 2) rfl)), List.forall_mem_cons.mpr ⟨List.mem_cons_of_mem _ (List.mem_append_left _ (List.mem_of_getElem? (i := 3) rfl)), (fun _ h => absurd h List.not_mem_nil)⟩⟩⟩⟩, List.forall_mem_cons.mpr ⟨List.mem_cons_of_mem _ (List.mem_append_left _ (List.mem_of_getElem? (i := 4) rfl)), List.forall_mem_append.mpr ⟨List.forall_mem_cons.mpr ⟨List.mem_cons_of_mem _ (List.mem_append_left _ (List.mem_of_getElem? (i := 5) rfl)), List.forall_mem_cons.mpr ⟨List.mem_cons_of_mem _ (List.mem_append_left _ (List.mem_of_getElem? (i := 6) rfl)), List.forall_mem_cons.mpr ⟨List.mem_cons_of_mem _ (List.mem_append_left _ (List.mem_of_getElem? (i := 7) rfl)), List.forall_mem_cons.mpr ⟨List.mem_cons_of_mem _ (List.mem_append_left _ (List.mem_of_getElem? (i := 8) rfl)), (fun _ h => absurd h List.not_mem_nil)⟩⟩⟩⟩, (fun _ h => List.mem_cons_of_mem _ (List.mem_append_right _ h))⟩⟩⟩) (by decide +kernel)
set_option maxHeartbeats 4000000 in
set_option maxRecDepth 100000 in
theorem s_X12_whyNotLeave (l : Launch) (D : va_G) (sz : Nat) (o : Nat) (a : Nat → Nat) (t : Nat → ClassId) (i : Nat → Int32) (q : Int64) (c : Nat → Nat → Int32) (d : Nat → Nat → Int64) (hI : mInv i c) (hs_T : TI (i 5).toInt (fun z => Kd (c 3) (c 6) z 0) (i 22).toInt (c 23) (c 24)) : Met l yX12_whyNotLeave wm_X12_whyNotLeave ({ frames := 1, cells := 0, slots := 0, locals := 20 }) (va_Pc [.ref o] (pA D sz (mW o a t i q c d) (mT t))) (va_Qi (fun (r : Int32) (_ : Unit) => ((0 ≤ r.toInt ∧ r.toInt ≤ 21) ∧ (Im (r.toInt = 0) (¬ (c 23 (c 24 (i 22).toInt.toNat).toInt.toNat).toInt = -9)))) oA (ro sz)) 0 0 (ro sz) := by
  refine Met.ofW (cc := cX12_whyNotLeave) (maxL := 2) (ret := (some .int)) (by decide +kernel) rfl ?_
  intro p e s m args below meth cd s₁ B hml hv
  obtain ⟨rfl, hsz, hP, hK⟩ := hv
  have hx := B.exec
  have hb := B.bytes
  have hr := B.returns
  have hts := atoms_spec (ws := wm_X12_whyNotLeave) B.pre
  have hown : s.vm.findClass RX12 = some m.cls := findClass_of_methodNamed B.named
  have hlocks := B.notSynchronized
  subst hsz
  have hA : ∀ q : Nat, s.heap.size ≤ q → ro s.heap.size q := fun _ h => h
  have hS : va_S (ro s.heap.size) s.heap s.heap [] := va_S.rf
  have hl := lv_entry ([.ref o]) (n := 2) (Nat.le_of_ble_eq_true rfl)
  rw [lg_entry_eq]
  generalize (lg_sl ([.ref o]) ++ List.replicate (2 - (lg_sl ([.ref o])).length) Slot.unset).toArray = ls at hl ⊢
  have hl : lv_has ls 2 [(0, .ref o)] := hl
  have rb5_i : 0 ≤ (i 5).toInt ∧ (i 5).toInt ≤ 30 := hI.1 5
  have rb22_i : (i 22).toInt = -9 ∨ (0 ≤ (i 22).toInt ∧ (i 22).toInt ≤ 29) := hI.1 22
  have hTt := hs_T
  obtain ⟨⟨hp0, hp1, hp2⟩, hT2, hT3, ⟨rk, hrk⟩, rr, hq0, hq1, hq2, hq3⟩ := hTt
  have hsp : Sp (nF (i 5).toInt (c 23) (c 24)) := nF_Sp (by omega) hT2
  have hpl := TI_p hs_T
  have hpa : 0 ≤ (c 24 (i 22).toNatClampNeg).toInt ∧ (c 24 (i 22).toNatClampNeg).toInt < (i 5).toInt := hT2 _ hp0 hp1 hpl
  refine lv_aload_n hx hb dX12_whyNotLeave_0 rfl (lv_at hl 0 rfl) ?_
  refine ro_calli (va_runV (As := []) (rest := []) ⟨hx, hb, hml, hown, hts⟩ (s_X12_isInRoom l D s.heap.size o a t i q c d  hI hs_T) (cwV 0 hts gm_X12_whyNotLeave_X12_isInRoom rfl rfl rfl (by decide +kernel) ⟨Nat.le_of_ble_eq_true rfl, Nat.le_of_ble_eq_true rfl⟩) (pA_V hK hP (ci := 12) (q0 := 0) rfl rfl) rfl rfl hl.1 rfl (lv_room (Nat.le_of_ble_eq_true rfl)) dX12_whyNotLeave_1 ⟨Nat.le_of_ble_eq_true rfl, Nat.le_of_ble_eq_true rfl⟩) hS hA hP (fun r1 u1 H locs hw1 hP hS => ?_)
  have hw1 : (0 ≤ r1.toInt ∧ r1.toInt ≤ 1) := hw1
  refine lv_if_eq (tgt := 9) hx hb dX12_whyNotLeave_4 (by decide +kernel) (fun c2 => ?_) (fun c2 => ?_)
  · have f2 := (ti_eq (a := r1.toInt) (b := 0) rfl (by decide +kernel)).mp c2
    refine lv_aload_n hx hb dX12_whyNotLeave_9 rfl (lv_at hl 0 rfl) ?_
    refine mget_24 hx hb hts (fun _ h => List.mem_cons_of_mem _ (List.mem_append_right _ h)) hown hK hP (hts (.fieldLink RX12 53 "TalePlayModel" "nAt" "[I") (List.mem_cons_of_mem _ (List.mem_append_left _ (List.mem_of_getElem? (i := 8) rfl)))) dX12_whyNotLeave_10 ?_
    refine lv_aload_n hx hb dX12_whyNotLeave_13 rfl (lv_at hl 0 rfl) ?_
    refine mget_22 (v := (i 22)) rfl hx hb hts (fun _ h => List.mem_cons_of_mem _ (List.mem_append_right _ h)) hown hK hP (hts (.fieldLink RX12 155 "TalePlayModel" "player" "I") (List.mem_cons_of_mem _ (List.mem_append_left _ (List.mem_of_getElem? (i := 6) rfl)))) dX12_whyNotLeave_14 ?_
    refine mld_24 hx hb hK hP (vp_in_iff.mpr (by have h9 : (i 22).toInt = (i 22).toInt := rfl; omega)) dX12_whyNotLeave_17 (fun x3 ex3 => ?_)
    have rx3 : x3.toInt = -9 ∨ (0 ≤ x3.toInt ∧ x3.toInt ≤ 29) := by rw [ex3]; exact hI.2 24 _
    have gx3 : (c 24 ((i 22) : Int32).toNatClampNeg).toInt = x3.toInt := by rw [ex3]
    refine lv_istore_n (lv' := [(1, .int x3), (0, .ref o)]) hx hb dX12_whyNotLeave_18 rfl hl (by decide +kernel) rfl (fun ls hl => ?_)
    refine lv_aload_n hx hb dX12_whyNotLeave_19 rfl (lv_at hl 1 rfl) ?_
    refine mget_23 hx hb hts (fun _ h => List.mem_cons_of_mem _ (List.mem_append_right _ h)) hown hK hP (hts (.fieldLink RX12 50 "TalePlayModel" "nForm" "[I") (List.mem_cons_of_mem _ (List.mem_append_left _ (List.mem_of_getElem? (i := 5) rfl)))) dX12_whyNotLeave_20 ?_
    refine lv_aload_n hx hb dX12_whyNotLeave_23 rfl (lv_at hl 1 rfl) ?_
    refine mget_22 (v := (i 22)) rfl hx hb hts (fun _ h => List.mem_cons_of_mem _ (List.mem_append_right _ h)) hown hK hP (hts (.fieldLink RX12 155 "TalePlayModel" "player" "I") (List.mem_cons_of_mem _ (List.mem_append_left _ (List.mem_of_getElem? (i := 6) rfl)))) dX12_whyNotLeave_24 ?_
    refine mld_23 hx hb hK hP (vp_in_iff.mpr (by have h9 : (i 22).toInt = (i 22).toInt := rfl; omega)) dX12_whyNotLeave_27 (fun x4 ex4 => ?_)
    have rx4 : x4.toInt = -9 ∨ (0 ≤ x4.toInt ∧ x4.toInt ≤ 4) := by rw [ex4]; exact hI.2 23 _
    have gx4 : (c 23 ((i 22) : Int32).toNatClampNeg).toInt = x4.toInt := by rw [ex4]
    have jn5 : ∀ (H : Heap) (locs : List Loc) (ls : Array Slot), va_P D vwCl (mW o a t i q c d) H → va_S (ro s.heap.size) s.heap H locs → lv_has ls 2 [(1, .int x3), (0, .ref o)] → W p l e (headSpec wm_X12_whyNotLeave ({ frames := 1, cells := 0, slots := 0, locals := 20 })).room s m ([.ref o] : List Value).toArray below meth cd H locs 0 0 (MQ below (va_Qi (fun (r : Int32) (_ : Unit) => ((0 ≤ r.toInt ∧ r.toInt ≤ 21) ∧ (Im (r.toInt = 0) (¬ (c 23 (c 24 (i 22).toInt.toNat).toInt.toNat).toInt = -9)))) oA (ro s.heap.size)) ([.ref o] : List Value).toArray s 0 0 (ro s.heap.size)) (F0 m 51 ls []) := by
      intro H locs ls hP hS hl
      refine lv_aload_n hx hb dX12_whyNotLeave_51 rfl (lv_at hl 1 rfl) ?_
      refine mget_23 hx hb hts (fun _ h => List.mem_cons_of_mem _ (List.mem_append_right _ h)) hown hK hP (hts (.fieldLink RX12 50 "TalePlayModel" "nForm" "[I") (List.mem_cons_of_mem _ (List.mem_append_left _ (List.mem_of_getElem? (i := 5) rfl)))) dX12_whyNotLeave_52 ?_
      refine lv_iload_n hx hb dX12_whyNotLeave_55 rfl (lv_at hl 0 rfl) ?_
      refine mld_23 hx hb hK hP (vp_in_iff.mpr (by have h9 : x3.toInt = x3.toInt := rfl; omega)) dX12_whyNotLeave_56 (fun x6 ex6 => ?_)
      have rx6 : x6.toInt = -9 ∨ (0 ≤ x6.toInt ∧ x6.toInt ≤ 4) := by rw [ex6]; exact hI.2 23 _
      have gx6 : (c 23 (x3 : Int32).toNatClampNeg).toInt = x6.toInt := by rw [ex6]
      refine lv_if_eq (tgt := 75) hx hb dX12_whyNotLeave_57 (by decide +kernel) (fun c7 => ?_) (fun c7 => ?_)
      · have f7 := (ti_eq (a := x6.toInt) (b := 0) rfl (by decide +kernel)).mp c7
        refine lv_iconst (v := 0) hx hb dX12_whyNotLeave_75 (by decide +kernel) ?_
        exact ro_iret hx hb hr hlocks hS dX12_whyNotLeave_76 ⟨(show 0 ≤ (0 : Int32).toInt ∧ (0 : Int32).toInt ≤ 21 from by decide +kernel), (show Im ((0 : Int32).toInt = 0) (¬ (c 23 (c 24 (i 22).toInt.toNat).toInt.toNat).toInt = -9) from fun _ => by rw [show (c 24 (i 22).toInt.toNat).toInt = x3.toInt from gx3]; show ¬ (c 23 x3.toNatClampNeg).toInt = -9; omega)⟩
      · have f7 := mt (ti_eq (a := x6.toInt) (b := 0) rfl (by decide +kernel)).mpr c7
        refine lv_aload_n hx hb dX12_whyNotLeave_60 rfl (lv_at hl 1 rfl) ?_
        refine mget_23 hx hb hts (fun _ h => List.mem_cons_of_mem _ (List.mem_append_right _ h)) hown hK hP (hts (.fieldLink RX12 50 "TalePlayModel" "nForm" "[I") (List.mem_cons_of_mem _ (List.mem_append_left _ (List.mem_of_getElem? (i := 5) rfl)))) dX12_whyNotLeave_61 ?_
        refine lv_iload_n hx hb dX12_whyNotLeave_64 rfl (lv_at hl 0 rfl) ?_
        refine mld_23 hx hb hK hP (vp_in_iff.mpr (by have h9 : x3.toInt = x3.toInt := rfl; omega)) dX12_whyNotLeave_65 (fun x8 ex8 => ?_)
        have rx8 : x8.toInt = -9 ∨ (0 ≤ x8.toInt ∧ x8.toInt ≤ 4) := by rw [ex8]; exact hI.2 23 _
        have gx8 : (c 23 (x3 : Int32).toNatClampNeg).toInt = x8.toInt := by rw [ex8]
        refine lv_iconst (v := 1) hx hb dX12_whyNotLeave_66 (by decide +kernel) ?_
        refine lv_icmp_eq (tgt := 75) hx hb dX12_whyNotLeave_67 (by decide +kernel) (fun c9 => ?_) (fun c9 => ?_)
        · have f9 := (ti_eq (a := x8.toInt) (b := 1) rfl (by decide +kernel)).mp c9
          refine lv_iconst (v := 0) hx hb dX12_whyNotLeave_75 (by decide +kernel) ?_
          exact ro_iret hx hb hr hlocks hS dX12_whyNotLeave_76 ⟨(show 0 ≤ (0 : Int32).toInt ∧ (0 : Int32).toInt ≤ 21 from by decide +kernel), (show Im ((0 : Int32).toInt = 0) (¬ (c 23 (c 24 (i 22).toInt.toNat).toInt.toNat).toInt = -9) from fun _ => by rw [show (c 24 (i 22).toInt.toNat).toInt = x3.toInt from gx3]; show ¬ (c 23 x3.toNatClampNeg).toInt = -9; omega)⟩
        · have f9 := mt (ti_eq (a := x8.toInt) (b := 1) rfl (by decide +kernel)).mpr c9
          refine lv_bipush (v := 21) hx hb dX12_whyNotLeave_70 (by decide +kernel) ?_
          refine lv_goto (tgt := 76) hx hb dX12_whyNotLeave_72 (by decide +kernel) ?_
          exact ro_iret hx hb hr hlocks hS dX12_whyNotLeave_76 ⟨(show 0 ≤ (21 : Int32).toInt ∧ (21 : Int32).toInt ≤ 21 from by decide +kernel), (show Im ((21 : Int32).toInt = 0) (¬ (c 23 (c 24 (i 22).toInt.toNat).toInt.toNat).toInt = -9) from fun h9 => absurd h9 (by decide +kernel))⟩
    refine lv_if_ne (tgt := 51) hx hb dX12_whyNotLeave_28 (by decide +kernel) (fun c10 => ?_) (fun c10 => ?_)
    · have f10 := mt (ti_eq (a := x4.toInt) (b := 0) rfl (by decide +kernel)).mpr c10
      exact jn5    _ _ _ hP hS (lv_sub hl [0, 1] rfl)
    · have f10 := (ti_eq (a := x4.toInt) (b := 0) rfl (by decide +kernel)).mp c10
      refine lv_aload_n hx hb dX12_whyNotLeave_31 rfl (lv_at hl 1 rfl) ?_
      refine mget_47 hx hb hts (fun _ h => List.mem_cons_of_mem _ (List.mem_append_right _ h)) hown hK hP (hts (.fieldLink RX12 98 "TalePlayModel" "isBox" "[Z") (List.mem_cons_of_mem _ (List.mem_append_left _ (List.mem_of_getElem? (i := 9) rfl)))) dX12_whyNotLeave_32 ?_
      refine lv_iload_n hx hb dX12_whyNotLeave_35 rfl (lv_at hl 0 rfl) ?_
      refine mld_47 hx hb hK hP (vp_in_iff.mpr (by have h9 : x3.toInt = x3.toInt := rfl; omega)) dX12_whyNotLeave_36 (fun x11 ex11 => ?_)
      have rx11 : 0 ≤ x11.toInt ∧ x11.toInt ≤ 1 := by rw [ex11]; exact hI.2 47 _
      refine lv_if_eq (tgt := 51) hx hb dX12_whyNotLeave_37 (by decide +kernel) (fun c12 => ?_) (fun c12 => ?_)
      · have f12 := (ti_eq (a := x11.toInt) (b := 0) rfl (by decide +kernel)).mp c12
        exact jn5    _ _ _ hP hS (lv_sub hl [0, 1] rfl)
      · have f12 := mt (ti_eq (a := x11.toInt) (b := 0) rfl (by decide +kernel)).mpr c12
        refine lv_aload_n hx hb dX12_whyNotLeave_40 rfl (lv_at hl 1 rfl) ?_
        refine mget_25 hx hb hts (fun _ h => List.mem_cons_of_mem _ (List.mem_append_right _ h)) hown hK hP (hts (.fieldLink RX12 56 "TalePlayModel" "nOpen" "[Z") (List.mem_cons_of_mem _ (List.mem_append_left _ (List.mem_of_getElem? (i := 10) rfl)))) dX12_whyNotLeave_41 ?_
        refine lv_iload_n hx hb dX12_whyNotLeave_44 rfl (lv_at hl 0 rfl) ?_
        refine mld_25 hx hb hK hP (vp_in_iff.mpr (by have h9 : x3.toInt = x3.toInt := rfl; omega)) dX12_whyNotLeave_45 (fun x13 ex13 => ?_)
        have rx13 : 0 ≤ x13.toInt ∧ x13.toInt ≤ 1 := by rw [ex13]; exact hI.2 25 _
        refine lv_if_ne (tgt := 51) hx hb dX12_whyNotLeave_46 (by decide +kernel) (fun c14 => ?_) (fun c14 => ?_)
        · have f14 := mt (ti_eq (a := x13.toInt) (b := 0) rfl (by decide +kernel)).mpr c14
          exact jn5    _ _ _ hP hS (lv_sub hl [0, 1] rfl)
        · have f14 := (ti_eq (a := x13.toInt) (b := 0) rfl (by decide +kernel)).mp c14
          refine lv_iconst (v := 3) hx hb dX12_whyNotLeave_49 (by decide +kernel) ?_
          exact ro_iret hx hb hr hlocks hS dX12_whyNotLeave_50 ⟨(show 0 ≤ (3 : Int32).toInt ∧ (3 : Int32).toInt ≤ 21 from by decide +kernel), (show Im ((3 : Int32).toInt = 0) (¬ (c 23 (c 24 (i 22).toInt.toNat).toInt.toNat).toInt = -9) from fun h9 => absurd h9 (by decide +kernel))⟩
  · have f2 := mt (ti_eq (a := r1.toInt) (b := 0) rfl (by decide +kernel)).mpr c2
    refine lv_iconst (v := 1) hx hb dX12_whyNotLeave_7 (by decide +kernel) ?_
    exact ro_iret hx hb hr hlocks hS dX12_whyNotLeave_8 ⟨(show 0 ≤ (1 : Int32).toInt ∧ (1 : Int32).toInt ≤ 21 from by decide +kernel), (show Im ((1 : Int32).toInt = 0) (¬ (c 23 (c 24 (i 22).toInt.toNat).toInt.toNat).toInt = -9) from fun h9 => absurd h9 (by decide +kernel))⟩

