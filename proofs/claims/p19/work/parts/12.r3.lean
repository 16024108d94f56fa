def wm_X12_otherSide : List Cond := .code yX12_otherSide cX12_otherSide 4 (some .int) :: (([.fieldLink RX12 202 "TalePlayModel" "sentences" "I", .fieldLink RX12 37 "TalePlayModel" "isSaid" "[Z", .fieldLink RX12 25 "TalePlayModel" "form" "[I", .fieldLink RX12 31 "TalePlayModel" "middle" "[I", .fieldLink RX12 28 "TalePlayModel" "left" "[I"] : List Cond) ++ wsX120)
set_option maxHeartbeats 4000000 in
set_option maxRecDepth 100000 in
theorem s_X12_otherSide (l : Launch) (D : va_G) (sz : Nat) (o : Nat) (a : Nat → Nat) (t : Nat → ClassId) (i : Nat → Int32) (q : Int64) (c : Nat → Nat → Int32) (d : Nat → Nat → Int64) (w : Int32) (r1 : Int32) (hI : mInv i c) : Met l yX12_otherSide wm_X12_otherSide ({ frames := 0, cells := 0, slots := 0, locals := 0 }) (va_Pc [.ref o, .int w, .int r1] (pA D sz (mW o a t i q c d) (mT t))) (va_Qi (fun (r : Int32) (_ : Unit) => ((r.toInt = -9 ∨ (0 ≤ r.toInt ∧ r.toInt ≤ 29)) ∧ (r.toInt = oS (c 9) (c 10) (c 11) (c 13) (i 8).toInt w.toInt r1.toInt))) oA (ro sz)) 0 0 (ro sz) := by
  refine Met.ofW (cc := cX12_otherSide) (maxL := 4) (ret := (some .int)) (by decide +kernel) rfl ?_
  intro p e s m args below meth cd s₁ B hml hv
  obtain ⟨rfl, hsz, hP, hK⟩ := hv
  have hx := B.exec
  have hb := B.bytes
  have hr := B.returns
  have hts := atoms_spec (ws := wm_X12_otherSide) B.pre
  have hown : s.vm.findClass RX12 = some m.cls := findClass_of_methodNamed B.named
  have hlocks := B.notSynchronized
  subst hsz
  have hA : ∀ q : Nat, s.heap.size ≤ q → ro s.heap.size q := fun _ h => h
  have hS : va_S (ro s.heap.size) s.heap s.heap [] := va_S.rf
  have hl := lv_entry ([.ref o, .int w, .int r1]) (n := 4) (Nat.le_of_ble_eq_true rfl)
  rw [lg_entry_eq]
  generalize (lg_sl ([.ref o, .int w, .int r1]) ++ List.replicate (4 - (lg_sl ([.ref o, .int w, .int r1])).length) Slot.unset).toArray = ls at hl ⊢
  have hl : lv_has ls 4 [(0, .ref o), (1, .int w), (2, .int r1)] := hl
  refine lv_iconst (v := 0) hx hb dX12_otherSide_0 (by decide +kernel) ?_
  refine lv_istore_n (lv' := [(3, .int 0), (0, .ref o), (1, .int w), (2, .int r1)]) hx hb dX12_otherSide_1 rfl hl (by decide +kernel) rfl (fun ls hl => ?_)
  have lp1 : ∀ (fu : Nat) (y1_3 : Int32), (0 ≤ y1_3.toInt ∧ y1_3.toInt ≤ 200) → (∀ s : Nat, (s : Int) < y1_3.toInt → ¬ oP (c 9) (c 10) (c 11) (c 13) w.toInt r1.toInt s) → (200 - y1_3.toInt).toNat < fu → ∀ (H : Heap) (locs : List Loc) (ls : Array Slot), va_P D vwCl (mW o a t i q c d) H → va_S (ro s.heap.size) s.heap H locs → lv_has ls 4 [(3, .int y1_3), (0, .ref o), (1, .int w), (2, .int r1)] → W p l e (headSpec wm_X12_otherSide ({ frames := 0, cells := 0, slots := 0, locals := 0 })).room s m ([.ref o, .int w, .int r1] : List Value).toArray below meth cd H locs 0 0 (MQ below (va_Qi (fun (r : Int32) (_ : Unit) => ((r.toInt = -9 ∨ (0 ≤ r.toInt ∧ r.toInt ≤ 29)) ∧ (r.toInt = oS (c 9) (c 10) (c 11) (c 13) (i 8).toInt w.toInt r1.toInt))) oA (ro s.heap.size)) ([.ref o, .int w, .int r1] : List Value).toArray s 0 0 (ro s.heap.size)) (F0 m 2 ls []) := by
    intro fu
    induction fu with
    | zero => intro y1_3 hy1_3 hz1_0 hm; exact absurd hm (Nat.not_lt_zero _)
    | succ fu ih =>
      intro y1_3 hy1_3 hz1_0 hm H locs ls hP hS hl
      have ih1 := ih
      refine lv_iload_n hx hb dX12_otherSide_2 rfl (lv_at hl 0 rfl) ?_
      refine lv_aload_n hx hb dX12_otherSide_3 rfl (lv_at hl 1 rfl) ?_
      refine mget_8 (v := (i 8)) rfl hx hb hts (fun _ h => List.mem_cons_of_mem _ (List.mem_append_right _ h)) hown hK hP (hts (.fieldLink RX12 202 "TalePlayModel" "sentences" "I") (List.mem_cons_of_mem _ (List.mem_append_left _ (List.mem_of_getElem? (i := 0) rfl)))) dX12_otherSide_4 ?_
      have rb8_i : 0 ≤ (i 8).toInt ∧ (i 8).toInt ≤ 200 := hI.1 8
      refine lv_icmp_ge (tgt := 62) hx hb dX12_otherSide_7 (by decide +kernel) (fun c2 => ?_) (fun c2 => ?_)
      · have f2 := (ti_le (a := (i 8).toInt) (b := y1_3.toInt) rfl rfl).mp c2
        refine lv_bipush (v := (-9)) hx hb dX12_otherSide_62 (by decide +kernel) ?_
        exact ro_iret hx hb hr hlocks hS dX12_otherSide_64 ⟨(show ((-9) : Int32).toInt = -9 ∨ (0 ≤ ((-9) : Int32).toInt ∧ ((-9) : Int32).toInt ≤ 29) from by decide +kernel), (show ((-9) : Int32).toInt = oS (c 9) (c 10) (c 11) (c 13) (i 8).toInt w.toInt r1.toInt from by unfold oS; rw [← fs_no (n := (i 8).toInt) hz1_0 (by omega), if_pos rfl]; decide)⟩
      · have f2 := mt (ti_le (a := (i 8).toInt) (b := y1_3.toInt) rfl rfl).mpr c2
        refine lv_aload_n hx hb dX12_otherSide_10 rfl (lv_at hl 1 rfl) ?_
        refine mget_13 hx hb hts (fun _ h => List.mem_cons_of_mem _ (List.mem_append_right _ h)) hown hK hP (hts (.fieldLink RX12 37 "TalePlayModel" "isSaid" "[Z") (List.mem_cons_of_mem _ (List.mem_append_left _ (List.mem_of_getElem? (i := 1) rfl)))) dX12_otherSide_11 ?_
        refine lv_iload_n hx hb dX12_otherSide_14 rfl (lv_at hl 0 rfl) ?_
        refine mld_13 hx hb hK hP (vp_in_iff.mpr (by have h9 : y1_3.toInt = y1_3.toInt := rfl; omega)) dX12_otherSide_15 (fun x3 ex3 => ?_)
        have rx3 : 0 ≤ x3.toInt ∧ x3.toInt ≤ 1 := by rw [ex3]; exact hI.2 13 _
        have gx3 : (c 13 (y1_3 : Int32).toNatClampNeg).toInt = x3.toInt := by rw [ex3]
        have jn4 : (¬ oP (c 9) (c 10) (c 11) (c 13) w.toInt r1.toInt y1_3.toNatClampNeg) → ∀ (H : Heap) (locs : List Loc) (ls : Array Slot), va_P D vwCl (mW o a t i q c d) H → va_S (ro s.heap.size) s.heap H locs → lv_has ls 4 [(3, .int y1_3), (0, .ref o), (1, .int w), (2, .int r1)] → W p l e (headSpec wm_X12_otherSide ({ frames := 0, cells := 0, slots := 0, locals := 0 })).room s m ([.ref o, .int w, .int r1] : List Value).toArray below meth cd H locs 0 0 (MQ below (va_Qi (fun (r : Int32) (_ : Unit) => ((r.toInt = -9 ∨ (0 ≤ r.toInt ∧ r.toInt ≤ 29)) ∧ (r.toInt = oS (c 9) (c 10) (c 11) (c 13) (i 8).toInt w.toInt r1.toInt))) oA (ro s.heap.size)) ([.ref o, .int w, .int r1] : List Value).toArray s 0 0 (ro s.heap.size)) (F0 m 56 ls []) := by
          intro hz4_0 H locs ls hP hS hl
          obtain ⟨x5, ex5⟩ : ∃ y : Int32, y = y1_3 + 1 := ⟨_, rfl⟩
          have tx5 := ti_add (a := y1_3.toInt) (b := 1) ex5 rfl (by decide +kernel) (by omega) (by omega)
          refine lv_iinc (v := x5) (lv' := [(3, .int x5), (0, .ref o), (1, .int w), (2, .int r1)]) hx hb dX12_otherSide_56 hl (k := 0) rfl (by rw [ex5]; rfl) (by decide +kernel) rfl (fun ls hl => ?_)
          refine lv_goto (tgt := 2) hx hb dX12_otherSide_59 (by decide +kernel) ?_
          exact ih1 x5 (show 0 ≤ x5.toInt ∧ x5.toInt ≤ 200 from by have h50 : x5.toInt = (y1_3.toInt + 1) := tx5; omega) (show ∀ s : Nat, (s : Int) < x5.toInt → ¬ oP (c 9) (c 10) (c 11) (c 13) w.toInt r1.toInt s from fs_go hz1_0 (by omega) hz4_0 tx5) (by have h50 : x5.toInt = (y1_3.toInt + 1) := tx5; omega) _ _ _ hP hS (lv_sub hl [0, 1, 2, 3] rfl)
        refine lv_if_eq (tgt := 56) hx hb dX12_otherSide_16 (by decide +kernel) (fun c6 => ?_) (fun c6 => ?_)
        · have f6 := (ti_eq (a := x3.toInt) (b := 0) rfl (by decide +kernel)).mp c6
          exact jn4   (show ¬ oP (c 9) (c 10) (c 11) (c 13) w.toInt r1.toInt y1_3.toNatClampNeg from by first | omega | (unfold oP; omega)) _ _ _ hP hS (lv_sub hl [0, 1, 2, 3] rfl)
        · have f6 := mt (ti_eq (a := x3.toInt) (b := 0) rfl (by decide +kernel)).mpr c6
          refine lv_aload_n hx hb dX12_otherSide_19 rfl (lv_at hl 1 rfl) ?_
          refine mget_9 hx hb hts (fun _ h => List.mem_cons_of_mem _ (List.mem_append_right _ h)) hown hK hP (hts (.fieldLink RX12 25 "TalePlayModel" "form" "[I") (List.mem_cons_of_mem _ (List.mem_append_left _ (List.mem_of_getElem? (i := 2) rfl)))) dX12_otherSide_20 ?_
          refine lv_iload_n hx hb dX12_otherSide_23 rfl (lv_at hl 0 rfl) ?_
          refine mld_9 hx hb hK hP (vp_in_iff.mpr (by have h9 : y1_3.toInt = y1_3.toInt := rfl; omega)) dX12_otherSide_24 (fun x7 ex7 => ?_)
          have rx7 : 0 ≤ x7.toInt ∧ x7.toInt ≤ 7 := by rw [ex7]; exact hI.2 9 _
          have gx7 : (c 9 (y1_3 : Int32).toNatClampNeg).toInt = x7.toInt := by rw [ex7]
          refine lv_iconst (v := 5) hx hb dX12_otherSide_25 (by decide +kernel) ?_
          refine lv_icmp_ne (tgt := 56) hx hb dX12_otherSide_26 (by decide +kernel) (fun c8 => ?_) (fun c8 => ?_)
          · have f8 := mt (ti_eq (a := x7.toInt) (b := 5) rfl (by decide +kernel)).mpr c8
            exact jn4   (show ¬ oP (c 9) (c 10) (c 11) (c 13) w.toInt r1.toInt y1_3.toNatClampNeg from by first | omega | (unfold oP; omega)) _ _ _ hP hS (lv_sub hl [0, 1, 2, 3] rfl)
          · have f8 := (ti_eq (a := x7.toInt) (b := 5) rfl (by decide +kernel)).mp c8
            refine lv_aload_n hx hb dX12_otherSide_29 rfl (lv_at hl 1 rfl) ?_
            refine mget_11 hx hb hts (fun _ h => List.mem_cons_of_mem _ (List.mem_append_right _ h)) hown hK hP (hts (.fieldLink RX12 31 "TalePlayModel" "middle" "[I") (List.mem_cons_of_mem _ (List.mem_append_left _ (List.mem_of_getElem? (i := 3) rfl)))) dX12_otherSide_30 ?_
            refine lv_iload_n hx hb dX12_otherSide_33 rfl (lv_at hl 0 rfl) ?_
            refine mld_11 hx hb hK hP (vp_in_iff.mpr (by have h9 : y1_3.toInt = y1_3.toInt := rfl; omega)) dX12_otherSide_34 (fun x9 ex9 => ?_)
            have rx9 : 0 ≤ x9.toInt ∧ x9.toInt ≤ 29 := by rw [ex9]; exact hI.2 11 _
            have gx9 : (c 11 (y1_3 : Int32).toNatClampNeg).toInt = x9.toInt := by rw [ex9]
            refine lv_iload_n hx hb dX12_otherSide_35 rfl (lv_at hl 2 rfl) ?_
            refine lv_icmp_ne (tgt := 56) hx hb dX12_otherSide_36 (by decide +kernel) (fun c10 => ?_) (fun c10 => ?_)
            · have f10 := mt (ti_eq (a := x9.toInt) (b := w.toInt) rfl rfl).mpr c10
              exact jn4   (show ¬ oP (c 9) (c 10) (c 11) (c 13) w.toInt r1.toInt y1_3.toNatClampNeg from by first | omega | (unfold oP; omega)) _ _ _ hP hS (lv_sub hl [0, 1, 2, 3] rfl)
            · have f10 := (ti_eq (a := x9.toInt) (b := w.toInt) rfl rfl).mp c10
              refine lv_aload_n hx hb dX12_otherSide_39 rfl (lv_at hl 1 rfl) ?_
              refine mget_10 hx hb hts (fun _ h => List.mem_cons_of_mem _ (List.mem_append_right _ h)) hown hK hP (hts (.fieldLink RX12 28 "TalePlayModel" "left" "[I") (List.mem_cons_of_mem _ (List.mem_append_left _ (List.mem_of_getElem? (i := 4) rfl)))) dX12_otherSide_40 ?_
              refine lv_iload_n hx hb dX12_otherSide_43 rfl (lv_at hl 0 rfl) ?_
              refine mld_10 hx hb hK hP (vp_in_iff.mpr (by have h9 : y1_3.toInt = y1_3.toInt := rfl; omega)) dX12_otherSide_44 (fun x11 ex11 => ?_)
              have rx11 : 0 ≤ x11.toInt ∧ x11.toInt ≤ 29 := by rw [ex11]; exact hI.2 10 _
              have gx11 : (c 10 (y1_3 : Int32).toNatClampNeg).toInt = x11.toInt := by rw [ex11]
              refine lv_iload_n hx hb dX12_otherSide_45 rfl (lv_at hl 3 rfl) ?_
              refine lv_icmp_eq (tgt := 56) hx hb dX12_otherSide_46 (by decide +kernel) (fun c12 => ?_) (fun c12 => ?_)
              · have f12 := (ti_eq (a := x11.toInt) (b := r1.toInt) rfl rfl).mp c12
                exact jn4   (show ¬ oP (c 9) (c 10) (c 11) (c 13) w.toInt r1.toInt y1_3.toNatClampNeg from by first | omega | (unfold oP; omega)) _ _ _ hP hS (lv_sub hl [0, 1, 2, 3] rfl)
              · have f12 := mt (ti_eq (a := x11.toInt) (b := r1.toInt) rfl rfl).mpr c12
                refine lv_aload_n hx hb dX12_otherSide_49 rfl (lv_at hl 1 rfl) ?_
                refine mget_10 hx hb hts (fun _ h => List.mem_cons_of_mem _ (List.mem_append_right _ h)) hown hK hP (hts (.fieldLink RX12 28 "TalePlayModel" "left" "[I") (List.mem_cons_of_mem _ (List.mem_append_left _ (List.mem_of_getElem? (i := 4) rfl)))) dX12_otherSide_50 ?_
                refine lv_iload_n hx hb dX12_otherSide_53 rfl (lv_at hl 0 rfl) ?_
                refine mld_10 hx hb hK hP (vp_in_iff.mpr (by have h9 : y1_3.toInt = y1_3.toInt := rfl; omega)) dX12_otherSide_54 (fun x13 ex13 => ?_)
                have rx13 : 0 ≤ x13.toInt ∧ x13.toInt ≤ 29 := by rw [ex13]; exact hI.2 10 _
                have gx13 : (c 10 (y1_3 : Int32).toNatClampNeg).toInt = x13.toInt := by rw [ex13]
                exact ro_iret hx hb hr hlocks hS dX12_otherSide_55 ⟨(show x13.toInt = -9 ∨ (0 ≤ x13.toInt ∧ x13.toInt ≤ 29) from by omega), (show x13.toInt = oS (c 9) (c 10) (c 11) (c 13) (i 8).toInt w.toInt r1.toInt from by have h9 := fs_yes (n := (i 8).toInt) hz1_0 (by omega) (by omega) (show oP (c 9) (c 10) (c 11) (c 13) w.toInt r1.toInt y1_3.toNatClampNeg by unfold oP; omega); unfold oS; rw [← h9, if_neg (by omega)]; exact gx13.symm)⟩
  exact lp1 _ (0 : Int32) (show 0 ≤ (0 : Int32).toInt ∧ (0 : Int32).toInt ≤ 200 from by decide +kernel) (show ∀ s : Nat, (s : Int) < (0 : Int32).toInt → ¬ oP (c 9) (c 10) (c 11) (c 13) w.toInt r1.toInt s from fs_0 (by decide +kernel)) (Nat.lt_succ_self _) _ _ _ hP hS (lv_sub hl [0, 1, 2, 3] rfl)

def wm_X12_findExit : List Cond := .code yX12_findExit cX12_findExit 6 (some .boolean) :: ((([.fieldLink RX12 263 "TalePlayModel" "leads" "I", .fieldLink RX12 266 "TalePlayModel" "byDoor" "I", .fieldLink RX12 269 "TalePlayModel" "bySentence" "I", .fieldLink RX12 272 "TalePlayModel" "isImplied" "Z", .fieldLink RX12 202 "TalePlayModel" "sentences" "I", .fieldLink RX12 28 "TalePlayModel" "left" "[I", .fieldLink RX12 31 "TalePlayModel" "middle" "[I", .methodLink RX12 184 yX12_isOf, .instanceMethod yX12_isOf, .selects RX12 yX12_isOf yX12_isOf, .initialized RX12, .code yX12_isOf cX12_isOf 4 (some .boolean), .fieldLink RX12 19 "TalePlayModel" "kindOf" "[I", .fieldLink RX12 13 "TalePlayModel" "parentOf" "[I", .methodLink RX12 276 yX12_otherSide, .instanceMethod yX12_otherSide] : List Cond) ++ ([.selects RX12 yX12_otherSide yX12_otherSide, .code yX12_otherSide cX12_otherSide 4 (some .int), .fieldLink RX12 37 "TalePlayModel" "isSaid" "[Z", .fieldLink RX12 25 "TalePlayModel" "form" "[I", .fieldLink RX12 34 "TalePlayModel" "right" "[I"] : List Cond)) ++ wsX120)
set_option maxRecDepth 20000 in
theorem gm_X12_findExit_X12_isOf : GoodIn wm_X12_findExit (wsV RX12 184 RX12 yX12_isOf wm_X12_isOf) := goodIn_w (List.forall_mem_append.mpr ⟨List.forall_mem_cons.mpr ⟨List.mem_cons_of_mem _ (List.mem_append_left _ (List.mem_append_left _ (List.mem_of_getElem? (i := 7) rfl))), List.forall_mem_cons.mpr ⟨List.mem_cons_of_mem _ (List.mem_append_left _ (List.mem_append_left _ (List.mem_of_getElem? (i := 8) rfl))), List.forall_mem_cons.mpr ⟨List.mem_cons_of_mem _ (List.mem_append_left _ (List.mem_append_left _ (List.mem_of_getElem? (i := 9) rfl))), List.forall_mem_cons.mpr ⟨List.mem_cons_of_mem _ (List.mem_append_left _ (List.mem_append_left _ (List.mem_of_getElem? (i := 10) rfl))), (fun _ h => absurd h List.not_mem_nil)⟩⟩⟩⟩, List.forall_mem_cons.mpr ⟨List.mem_cons_of_mem _ (List.mem_append_left _ (List.mem_append_left _ (List.mem_of_getElem? (i := 11) rfl))), List.forall_mem_append.mpr ⟨List.forall_mem_cons.mpr ⟨List.mem_cons_of_mem _ (List.mem_append_left _ (List.mem_append_left _ (List.mem_of_getElem? (i := 12) rfl))), List.forall_mem_cons.mpr ⟨List.mem_cons_of_mem _ (List.mem_append_left _ (List.mem_append_left _ (List.mem_of_getElem? (i := 13) rfl))), (fun _ h => absurd h List.not_mem_nil)⟩⟩, (fun _ h => List.mem_cons_of_mem _ (List.mem_append_right _ h))⟩⟩⟩) (by decide +kernel)
set_option maxRecDepth 20000 in
theorem gm_X12_findExit_X12_otherSide : GoodIn wm_X12_findExit (wsV RX12 276 RX12 yX12_otherSide wm_X12_otherSide) := goodIn_w (List.forall_mem_append.mpr ⟨List.forall_mem_cons.mpr ⟨List.mem_cons_of_mem _ (List.mem_append_left _ (List.mem_append_left _ (List.mem_of_getElem? (i := 14) rfl))), List.forall_mem_cons.mpr ⟨List.mem_cons_of_mem _ (List.mem_append_left _ (List.mem_append_left _ (List.mem_of_getElem? (i := 15) rfl))), List.forall_mem_cons.mpr ⟨List.mem_cons_of_mem _ (List.mem_append_left _ (List.mem_append_right _ (List.mem_of_getElem? (i := 0) rfl))), List.forall_mem_cons.mpr ⟨List.mem_cons_of_mem _ (List.mem_append_left _ (List.mem_append_left _ (List.mem_of_getElem? (i := 10) rfl))), (fun _ h => absurd h List.not_mem_nil)⟩⟩⟩⟩, List.forall_mem_cons.mpr ⟨List.mem_cons_of_mem _ (List.mem_append_left _ (List.mem_append_right _ (List.mem_of_getElem? (i := 1) rfl))), List.forall_mem_append.mpr ⟨List.forall_mem_cons.mpr ⟨List.mem_cons_of_mem _ (List.mem_append_left _ (List.mem_append_left _ (List.mem_of_getElem? (i := 4) rfl))), List.forall_mem_cons.mpr ⟨List.mem_cons_of_mem _ (List.mem_append_left _ (List.mem_append_right _ (List.mem_of_getElem? (i := 2) rfl))), List.forall_mem_cons.mpr ⟨List.mem_cons_of_mem _ (List.mem_append_left _ (List.mem_append_right _ (List.mem_of_getElem? (i := 3) rfl))), List.forall_mem_cons.mpr ⟨List.mem_cons_of_mem _ (List.mem_append_left _ (List.mem_append_left _ (List.mem_of_getElem? (i := 6) rfl))), List.forall_mem_cons.mpr ⟨List.mem_cons_of_mem _ (List.mem_append_left _ (List.mem_append_left _ (List.mem_of_getElem? (i := 5) rfl))), (fun _ h => absurd h List.not_mem_nil)⟩⟩⟩⟩⟩, (fun _ h => List.mem_cons_of_mem _ (List.mem_append_right _ h))⟩⟩⟩) (by decide +kernel)
set_option maxHeartbeats 4000000 in
set_option maxRecDepth 100000 in
theorem s_X12_findExit (l : Launch) (D : va_G) (sz : Nat) (o : Nat) (a : Nat → Nat) (t : Nat → ClassId) (i : Nat → Int32) (q : Int64) (c : Nat → Nat → Int32) (d : Nat → Nat → Int64) (r1 : Int32) (d1 : Int32) (hI : mInv i c) (hr1 : 0 ≤ r1.toInt ∧ r1.toInt ≤ 29) (hd1 : 0 ≤ d1.toInt ∧ d1.toInt ≤ 9) : Met l yX12_findExit wm_X12_findExit ({ frames := 1, cells := 0, slots := 0, locals := 23 }) (va_Pc [.ref o, .int r1, .int d1] (pB D sz (mW o a t i q c d) (mT t))) (va_Qi (fun (r : Int32) (u : MS) => (0 ≤ r.toInt ∧ r.toInt ≤ 1) ∧ mInv u.1 u.2.2.1 ∧ (∀ k, k ∉ ([16, 17, 18, 19] : List Nat) → u.1 k = i k) ∧ (∀ k, k ∉ ([] : List Nat) → u.2.2.1 k = c k) ∧ (LdR (c 3) (c 6) (c 9) (c 10) (c 11) (c 12) (c 13) (i 8).toInt r1.toInt d1.toInt (u.1 16).toInt)) (oC D (va_A (mW o a t i q c d) sz) (fun u : MS => mW o a t u.1 u.2.1 u.2.2.1 u.2.2.2) (fun _ => [])) (va_A (mW o a t i q c d) sz)) 0 0 (va_A (mW o a t i q c d) sz) := by
  refine Met.ofW (cc := cX12_findExit) (maxL := 6) (ret := (some .boolean)) (by decide +kernel) rfl ?_
  intro p e s m args below meth cd s₁ B hml hv
  obtain ⟨rfl, hsz, hP, hK, hD0⟩ := hv
  have hx := B.exec
  have hb := B.bytes
  have hr := B.returns
  have hts := atoms_spec (ws := wm_X12_findExit) B.pre
  have hown : s.vm.findClass RX12 = some m.cls := findClass_of_methodNamed B.named
  have hlocks := B.notSynchronized
  subst hsz
  have hD := hD0.self (sz := s.heap.size)
  generalize hAe : va_A (mW o a t i q c d) s.heap.size = A at hD ⊢
  have hA : ∀ q : Nat, s.heap.size ≤ q → A q := fun q h => by rw [← hAe]; exact Or.inr h
  have hS : va_S A s.heap s.heap [] := va_S.rf
  have hfi : ∀ k, k ∉ ([] : List Nat) → i k = i k := fun _ _ => rfl
  have hfc : ∀ k, k ∉ ([] : List Nat) → c k = c k := fun _ _ => rfl
  have hl := lv_entry ([.ref o, .int r1, .int d1]) (n := 6) (Nat.le_of_ble_eq_true rfl)
  rw [lg_entry_eq]
  generalize (lg_sl ([.ref o, .int r1, .int d1]) ++ List.replicate (6 - (lg_sl ([.ref o, .int r1, .int d1])).length) Slot.unset).toArray = ls at hl ⊢
  have hl : lv_has ls 6 [(0, .ref o), (1, .int r1), (2, .int d1)] := hl
  have rb8_i : 0 ≤ (i 8).toInt ∧ (i 8).toInt ≤ 200 := hI.1 8
  refine lv_aload_n hx hb dX12_findExit_0 rfl (lv_at hl 0 rfl) ?_
  refine lv_bipush (v := (-9)) hx hb dX12_findExit_1 (by decide +kernel) ?_
  refine mput_16 hx hb hts (fun _ h => List.mem_cons_of_mem _ (List.mem_append_right _ h)) hown hK hP hD hS (hts (.fieldLink RX12 263 "TalePlayModel" "leads" "I") (List.mem_cons_of_mem _ (List.mem_append_left _ (List.mem_append_left _ (List.mem_of_getElem? (i := 0) rfl))))) rfl rfl dX12_findExit_3 (fun H locs hP hD hS => ?_)
  have hI := mInv_i hI (k := 16) (v := (-9)) (show ((-9) : Int32).toInt = -9 ∨ (0 ≤ ((-9) : Int32).toInt ∧ ((-9) : Int32).toInt ≤ 29) from by decide +kernel)
  have hfi : ∀ k, k ∉ ([16] : List Nat) → (upd i 16 (-9)) k = i k := fr_iz hfi (by decide +kernel) (by decide +kernel)
  refine lv_aload_n hx hb dX12_findExit_6 rfl (lv_at hl 0 rfl) ?_
  refine lv_bipush (v := (-9)) hx hb dX12_findExit_7 (by decide +kernel) ?_
  refine mput_17 hx hb hts (fun _ h => List.mem_cons_of_mem _ (List.mem_append_right _ h)) hown hK hP hD hS (hts (.fieldLink RX12 266 "TalePlayModel" "byDoor" "I") (List.mem_cons_of_mem _ (List.mem_append_left _ (List.mem_append_left _ (List.mem_of_getElem? (i := 1) rfl))))) rfl rfl dX12_findExit_9 (fun H locs hP hD hS => ?_)
  have hI := mInv_i hI (k := 17) (v := (-9)) (show ((-9) : Int32).toInt = -9 ∨ (0 ≤ ((-9) : Int32).toInt ∧ ((-9) : Int32).toInt ≤ 29) from by decide +kernel)
  have hfi : ∀ k, k ∉ ([16, 17] : List Nat) → (upd (upd i 16 (-9)) 17 (-9)) k = i k := fr_iz hfi (by decide +kernel) (by decide +kernel)
  refine lv_aload_n hx hb dX12_findExit_12 rfl (lv_at hl 0 rfl) ?_
  refine lv_bipush (v := (-9)) hx hb dX12_findExit_13 (by decide +kernel) ?_
  refine mput_18 hx hb hts (fun _ h => List.mem_cons_of_mem _ (List.mem_append_right _ h)) hown hK hP hD hS (hts (.fieldLink RX12 269 "TalePlayModel" "bySentence" "I") (List.mem_cons_of_mem _ (List.mem_append_left _ (List.mem_append_left _ (List.mem_of_getElem? (i := 2) rfl))))) rfl rfl dX12_findExit_15 (fun H locs hP hD hS => ?_)
  have hI := mInv_i hI (k := 18) (v := (-9)) (show ((-9) : Int32).toInt = -9 ∨ (0 ≤ ((-9) : Int32).toInt ∧ ((-9) : Int32).toInt ≤ 199) from by decide +kernel)
  have hfi : ∀ k, k ∉ ([16, 17, 18] : List Nat) → (upd (upd (upd i 16 (-9)) 17 (-9)) 18 (-9)) k = i k := fr_iz hfi (by decide +kernel) (by decide +kernel)
  refine lv_aload_n hx hb dX12_findExit_18 rfl (lv_at hl 0 rfl) ?_
  refine lv_iconst (v := 0) hx hb dX12_findExit_19 (by decide +kernel) ?_
  refine mput_19 hx hb hts (fun _ h => List.mem_cons_of_mem _ (List.mem_append_right _ h)) hown hK hP hD hS (hts (.fieldLink RX12 272 "TalePlayModel" "isImplied" "Z") (List.mem_cons_of_mem _ (List.mem_append_left _ (List.mem_append_left _ (List.mem_of_getElem? (i := 3) rfl))))) rfl rfl dX12_findExit_20 (fun H locs hP hD hS => ?_)
  have hI := mInv_i hI (k := 19) (v := 0) (show 0 ≤ (0 : Int32).toInt ∧ (0 : Int32).toInt ≤ 1 from by decide +kernel)
  have hfi : ∀ k, k ∉ ([16, 17, 18, 19] : List Nat) → (upd (upd (upd (upd i 16 (-9)) 17 (-9)) 18 (-9)) 19 0) k = i k := fr_iz hfi (by decide +kernel) (by decide +kernel)
  refine lv_iload_n hx hb dX12_findExit_23 rfl (lv_at hl 2 rfl) ?_
  refine lv_iconst (v := 2) hx hb dX12_findExit_24 (by decide +kernel) ?_
  refine lv_irem hx hb dX12_findExit_25 (by decide +kernel) ?_
  refine lv_topi (fun x1 ex1 => ?_)
  have jn2 : ∀ (z2_0 : Int32), (z2_0.toInt = opp d1.toInt) → ∀ (H : Heap) (locs : List Loc) (ls : Array Slot), va_P D vwCl (mW o a t (upd (upd (upd (upd i 16 (-9)) 17 (-9)) 18 (-9)) 19 0) q c d) H → va_D A (mW o a t (upd (upd (upd (upd i 16 (-9)) 17 (-9)) 18 (-9)) 19 0) q c d) → va_S A s.heap H locs → lv_has ls 6 [(0, .ref o), (1, .int r1), (2, .int d1)] → W p l e (headSpec wm_X12_findExit ({ frames := 1, cells := 0, slots := 0, locals := 23 })).room s m ([.ref o, .int r1, .int d1] : List Value).toArray below meth cd H locs 0 0 (MQ below (va_Qi (fun (r : Int32) (u : MS) => (0 ≤ r.toInt ∧ r.toInt ≤ 1) ∧ mInv u.1 u.2.2.1 ∧ (∀ k, k ∉ ([16, 17, 18, 19] : List Nat) → u.1 k = i k) ∧ (∀ k, k ∉ ([] : List Nat) → u.2.2.1 k = c k) ∧ (LdR (c 3) (c 6) (c 9) (c 10) (c 11) (c 12) (c 13) (i 8).toInt r1.toInt d1.toInt (u.1 16).toInt)) (oC D A (fun u : MS => mW o a t u.1 u.2.1 u.2.2.1 u.2.2.2) (fun _ => [])) A) ([.ref o, .int r1, .int d1] : List Value).toArray s 0 0 A) (F0 m 38 ls [.int z2_0]) := by
    intro z2_0 hz2_0 H locs ls hP hD hS hl
    refine lv_istore_n (lv' := [(3, .int z2_0), (0, .ref o), (1, .int r1), (2, .int d1)]) hx hb dX12_findExit_38 rfl hl (by decide +kernel) rfl (fun ls hl => ?_)
    refine lv_bipush (v := (-9)) hx hb dX12_findExit_39 (by decide +kernel) ?_
    refine lv_istore (lv' := [(4, .int (-9)), (3, .int z2_0), (0, .ref o), (1, .int r1), (2, .int d1)]) hx hb dX12_findExit_41 hl (by decide +kernel) rfl (fun ls hl => ?_)
    refine lv_iconst (v := 0) hx hb dX12_findExit_43 (by decide +kernel) ?_
    refine lv_istore (lv' := [(5, .int 0), (4, .int (-9)), (3, .int z2_0), (0, .ref o), (1, .int r1), (2, .int d1)]) hx hb dX12_findExit_44 hl (by decide +kernel) rfl (fun ls hl => ?_)
    have lp3 : ∀ (fu : Nat) (i3 : Nat → Int32) (q3 : Int64) (c3 : Nat → Nat → Int32) (d3 : Nat → Nat → Int64) (y3_5 : Int32) (y3_4 : Int32), mInv i3 c3 → (∀ k, k ∉ ([16, 17, 18, 19] : List Nat) → i3 k = i k) → (∀ k, k ∉ ([] : List Nat) → c3 k = c k) → (0 ≤ y3_5.toInt ∧ y3_5.toInt ≤ 200 ∧ y3_5.toInt ≤ (i 8).toInt) → (y3_4.toInt = -9 ∨ (0 ≤ y3_4.toInt ∧ y3_4.toInt ≤ 199)) → (lst (bP (c 9) (c 10) (c 12) (c 13) r1.toInt d1.toInt) y3_5.toInt.toNat ((i3 18) : Int32).toInt) → (fst (qP (c 9) (c 11) (c 12) (c 13) r1.toInt (opp d1.toInt)) y3_5.toInt.toNat y3_4.toInt) → (((i3 16) : Int32).toInt = -9) → (200 - y3_5.toInt).toNat < fu → ∀ (H : Heap) (locs : List Loc) (ls : Array Slot), va_P D vwCl (mW o a t i3 q3 c3 d3) H → va_D A (mW o a t i3 q3 c3 d3) → va_S A s.heap H locs → lv_has ls 6 [(5, .int y3_5), (4, .int y3_4), (3, .int z2_0), (0, .ref o), (1, .int r1), (2, .int d1)] → W p l e (headSpec wm_X12_findExit ({ frames := 1, cells := 0, slots := 0, locals := 23 })).room s m ([.ref o, .int r1, .int d1] : List Value).toArray below meth cd H locs 0 0 (MQ below (va_Qi (fun (r : Int32) (u : MS) => (0 ≤ r.toInt ∧ r.toInt ≤ 1) ∧ mInv u.1 u.2.2.1 ∧ (∀ k, k ∉ ([16, 17, 18, 19] : List Nat) → u.1 k = i k) ∧ (∀ k, k ∉ ([] : List Nat) → u.2.2.1 k = c k) ∧ (LdR (c 3) (c 6) (c 9) (c 10) (c 11) (c 12) (c 13) (i 8).toInt r1.toInt d1.toInt (u.1 16).toInt)) (oC D A (fun u : MS => mW o a t u.1 u.2.1 u.2.2.1 u.2.2.2) (fun _ => [])) A) ([.ref o, .int r1, .int d1] : List Value).toArray s 0 0 A) (F0 m 46 ls []) := by
      intro fu
      induction fu with
      | zero => intro i3 q3 c3 d3 y3_5 y3_4 hI hfi hfc hy3_5 hy3_4 hz3_0 hz3_1 hz3_2 hm; exact absurd hm (Nat.not_lt_zero _)
      | succ fu ih =>
        intro i3 q3 c3 d3 y3_5 y3_4 hI hfi hfc hy3_5 hy3_4 hz3_0 hz3_1 hz3_2 hm H locs ls hP hD hS hl
        have ih3 := ih
        refine lv_iload hx hb dX12_findExit_46 (lv_at hl 0 rfl) ?_
        refine lv_aload_n hx hb dX12_findExit_48 rfl (lv_at hl 3 rfl) ?_
        refine mget_8 (v := (i3 8)) rfl hx hb hts (fun _ h => List.mem_cons_of_mem _ (List.mem_append_right _ h)) hown hK hP (hts (.fieldLink RX12 202 "TalePlayModel" "sentences" "I") (List.mem_cons_of_mem _ (List.mem_append_left _ (List.mem_append_left _ (List.mem_of_getElem? (i := 4) rfl))))) dX12_findExit_49 ?_
        have rb8_i3 : 0 ≤ (i3 8).toInt ∧ (i3 8).toInt ≤ 200 := hI.1 8
        have re8_i3 : (i3 8).toInt = (i 8).toInt := congrArg Int32.toInt (hfi 8 (by decide +kernel))
        refine lv_icmp_ge (tgt := 164) hx hb dX12_findExit_52 (by decide +kernel) (fun c4 => ?_) (fun c4 => ?_)
        · have f4 := (ti_le (a := (i3 8).toInt) (b := y3_5.toInt) rfl rfl).mp c4
          have hbF : lsF (bP (c 9) (c 10) (c 12) (c 13) r1.toInt d1.toInt) (i 8).toInt.toNat = (i3 18).toInt := lst_f hz3_0 (by omega)
          have hqF : fsF (qP (c 9) (c 11) (c 12) (c 13) r1.toInt (opp d1.toInt)) (i 8).toInt.toNat = y3_4.toInt := fst_f hz3_1 (by omega)
          refine lv_aload_n hx hb dX12_findExit_164 rfl (lv_at hl 3 rfl) ?_
          refine mget_18 (v := (i3 18)) rfl hx hb hts (fun _ h => List.mem_cons_of_mem _ (List.mem_append_right _ h)) hown hK hP (hts (.fieldLink RX12 269 "TalePlayModel" "bySentence" "I") (List.mem_cons_of_mem _ (List.mem_append_left _ (List.mem_append_left _ (List.mem_of_getElem? (i := 2) rfl))))) dX12_findExit_165 ?_
          have rb18_i3 : (i3 18).toInt = -9 ∨ (0 ≤ (i3 18).toInt ∧ (i3 18).toInt ≤ 199) := hI.1 18
          refine lv_bipush (v := (-9)) hx hb dX12_findExit_168 (by decide +kernel) ?_
          have jn5 : ∀ (i5 : Nat → Int32) (q5 : Int64) (c5 : Nat → Nat → Int32) (d5 : Nat → Nat → Int64), mInv i5 c5 → (∀ k, k ∉ ([16, 17, 18, 19] : List Nat) → i5 k = i k) → (∀ k, k ∉ ([] : List Nat) → c5 k = c k) → (LdR (c 3) (c 6) (c 9) (c 10) (c 11) (c 12) (c 13) (i 8).toInt r1.toInt d1.toInt ((i5 16) : Int32).toInt) → ∀ (H : Heap) (locs : List Loc) (ls : Array Slot), va_P D vwCl (mW o a t i5 q5 c5 d5) H → va_D A (mW o a t i5 q5 c5 d5) → va_S A s.heap H locs → lv_has ls 6 [(5, .int y3_5), (4, .int y3_4), (3, .int z2_0), (0, .ref o), (1, .int r1), (2, .int d1)] → W p l e (headSpec wm_X12_findExit ({ frames := 1, cells := 0, slots := 0, locals := 23 })).room s m ([.ref o, .int r1, .int d1] : List Value).toArray below meth cd H locs 0 0 (MQ below (va_Qi (fun (r : Int32) (u : MS) => (0 ≤ r.toInt ∧ r.toInt ≤ 1) ∧ mInv u.1 u.2.2.1 ∧ (∀ k, k ∉ ([16, 17, 18, 19] : List Nat) → u.1 k = i k) ∧ (∀ k, k ∉ ([] : List Nat) → u.2.2.1 k = c k) ∧ (LdR (c 3) (c 6) (c 9) (c 10) (c 11) (c 12) (c 13) (i 8).toInt r1.toInt d1.toInt (u.1 16).toInt)) (oC D A (fun u : MS => mW o a t u.1 u.2.1 u.2.2.1 u.2.2.2) (fun _ => [])) A) ([.ref o, .int r1, .int d1] : List Value).toArray s 0 0 A) (F0 m 273 ls []) := by
            intro i5 q5 c5 d5 hI hfi hfc hz5_0 H locs ls hP hD hS hl
            refine lv_aload_n hx hb dX12_findExit_273 rfl (lv_at hl 3 rfl) ?_
            refine mget_18 (v := (i5 18)) rfl hx hb hts (fun _ h => List.mem_cons_of_mem _ (List.mem_append_right _ h)) hown hK hP (hts (.fieldLink RX12 269 "TalePlayModel" "bySentence" "I") (List.mem_cons_of_mem _ (List.mem_append_left _ (List.mem_append_left _ (List.mem_of_getElem? (i := 2) rfl))))) dX12_findExit_274 ?_
            have rb18_i5 : (i5 18).toInt = -9 ∨ (0 ≤ (i5 18).toInt ∧ (i5 18).toInt ≤ 199) := hI.1 18
            refine lv_bipush (v := (-9)) hx hb dX12_findExit_277 (by decide +kernel) ?_
            refine lv_icmp_eq (tgt := 286) hx hb dX12_findExit_279 (by decide +kernel) (fun c6 => ?_) (fun c6 => ?_)
            · have f6 := (ti_eq (a := (i5 18).toInt) (b := (-9)) rfl (by decide +kernel)).mp c6
              refine lv_iconst (v := 0) hx hb dX12_findExit_286 (by decide +kernel) ?_
              exact rw_zret (i5, q5, c5, d5) hx hb hr hlocks hS (hK.sub (tys' := []) [] rfl) hP hD rfl dX12_findExit_287 ⟨(show 0 ≤ (0 : Int32).toInt ∧ (0 : Int32).toInt ≤ 1 from by decide +kernel), hI, fr_w hfi (by decide +kernel), fr_w hfc (by decide +kernel), (show LdR (c 3) (c 6) (c 9) (c 10) (c 11) (c 12) (c 13) (i 8).toInt r1.toInt d1.toInt ((i5 16) : Int32).toInt from hz5_0)⟩
            · have f6 := mt (ti_eq (a := (i5 18).toInt) (b := (-9)) rfl (by decide +kernel)).mpr c6
              refine lv_iconst (v := 1) hx hb dX12_findExit_282 (by decide +kernel) ?_
              refine lv_goto (tgt := 287) hx hb dX12_findExit_283 (by decide +kernel) ?_
              exact rw_zret (i5, q5, c5, d5) hx hb hr hlocks hS (hK.sub (tys' := []) [] rfl) hP hD rfl dX12_findExit_287 ⟨(show 0 ≤ (1 : Int32).toInt ∧ (1 : Int32).toInt ≤ 1 from by decide +kernel), hI, fr_w hfi (by decide +kernel), fr_w hfc (by decide +kernel), (show LdR (c 3) (c 6) (c 9) (c 10) (c 11) (c 12) (c 13) (i 8).toInt r1.toInt d1.toInt ((i5 16) : Int32).toInt from hz5_0)⟩
          refine lv_icmp_eq (tgt := 219) hx hb dX12_findExit_170 (by decide +kernel) (fun c7 => ?_) (fun c7 => ?_)
          · have f7 := (ti_eq (a := (i3 18).toInt) (b := (-9)) rfl (by decide +kernel)).mp c7
            refine lv_aload_n hx hb dX12_findExit_219 rfl (lv_at hl 3 rfl) ?_
            refine mget_18 (v := (i3 18)) rfl hx hb hts (fun _ h => List.mem_cons_of_mem _ (List.mem_append_right _ h)) hown hK hP (hts (.fieldLink RX12 269 "TalePlayModel" "bySentence" "I") (List.mem_cons_of_mem _ (List.mem_append_left _ (List.mem_append_left _ (List.mem_of_getElem? (i := 2) rfl))))) dX12_findExit_220 ?_
            refine lv_bipush (v := (-9)) hx hb dX12_findExit_223 (by decide +kernel) ?_
            refine lv_icmp_eq (tgt := 244) hx hb dX12_findExit_225 (by decide +kernel) (fun c8 => ?_) (fun c8 => ?_)
            · have f8 := (ti_eq (a := (i3 18).toInt) (b := (-9)) rfl (by decide +kernel)).mp c8
              refine lv_iload hx hb dX12_findExit_244 (lv_at hl 1 rfl) ?_
              refine lv_bipush (v := (-9)) hx hb dX12_findExit_246 (by decide +kernel) ?_
              refine lv_icmp_eq (tgt := 273) hx hb dX12_findExit_248 (by decide +kernel) (fun c9 => ?_) (fun c9 => ?_)
              · have f9 := (ti_eq (a := y3_4.toInt) (b := (-9)) rfl (by decide +kernel)).mp c9
                exact jn5 i3 q3 c3 d3   hI (fr_w hfi (by decide +kernel)) (fr_w hfc (by decide +kernel)) (show LdR (c 3) (c 6) (c 9) (c 10) (c 11) (c 12) (c 13) (i 8).toInt r1.toInt d1.toInt ((i3 16) : Int32).toInt from by first | exact Or.inr (Or.inr (Or.inr ⟨by rw [hbF]; omega, by rw [hqF]; omega, by omega⟩)) | (exfalso; omega)) _ _ _ hP hD hS (lv_sub hl [0, 1, 2, 3, 4, 5] rfl)
              · have f9 := mt (ti_eq (a := y3_4.toInt) (b := (-9)) rfl (by decide +kernel)).mpr c9
                refine lv_aload_n hx hb dX12_findExit_251 rfl (lv_at hl 3 rfl) ?_
                refine lv_iload hx hb dX12_findExit_252 (lv_at hl 1 rfl) ?_
                refine mput_18 hx hb hts (fun _ h => List.mem_cons_of_mem _ (List.mem_append_right _ h)) hown hK hP hD hS (hts (.fieldLink RX12 269 "TalePlayModel" "bySentence" "I") (List.mem_cons_of_mem _ (List.mem_append_left _ (List.mem_append_left _ (List.mem_of_getElem? (i := 2) rfl))))) rfl rfl dX12_findExit_254 (fun H locs hP hD hS => ?_)
                have hI := mInv_i hI (k := 18) (v := y3_4) (show (y3_4 : Int32).toInt = -9 ∨ (0 ≤ (y3_4 : Int32).toInt ∧ (y3_4 : Int32).toInt ≤ 199) from by omega)
                have hfi := fr_i hfi (k := 18) (v := y3_4) (by decide +kernel)
                refine lv_aload_n hx hb dX12_findExit_257 rfl (lv_at hl 3 rfl) ?_
                refine lv_iconst (v := 1) hx hb dX12_findExit_258 (by decide +kernel) ?_
                refine mput_19 hx hb hts (fun _ h => List.mem_cons_of_mem _ (List.mem_append_right _ h)) hown hK hP hD hS (hts (.fieldLink RX12 272 "TalePlayModel" "isImplied" "Z") (List.mem_cons_of_mem _ (List.mem_append_left _ (List.mem_append_left _ (List.mem_of_getElem? (i := 3) rfl))))) rfl rfl dX12_findExit_259 (fun H locs hP hD hS => ?_)
                have hI := mInv_i hI (k := 19) (v := 1) (show 0 ≤ (1 : Int32).toInt ∧ (1 : Int32).toInt ≤ 1 from by decide +kernel)
                have hfi := fr_i hfi (k := 19) (v := 1) (by decide +kernel)
                refine lv_aload_n hx hb dX12_findExit_262 rfl (lv_at hl 3 rfl) ?_
                refine lv_aload_n hx hb dX12_findExit_263 rfl (lv_at hl 3 rfl) ?_
                refine mget_10 hx hb hts (fun _ h => List.mem_cons_of_mem _ (List.mem_append_right _ h)) hown hK hP (hts (.fieldLink RX12 28 "TalePlayModel" "left" "[I") (List.mem_cons_of_mem _ (List.mem_append_left _ (List.mem_append_left _ (List.mem_of_getElem? (i := 5) rfl))))) dX12_findExit_264 ?_
                refine lv_iload hx hb dX12_findExit_267 (lv_at hl 1 rfl) ?_
                refine mld_10 hx hb hK hP (vp_in_iff.mpr (by have h9 : y3_4.toInt = y3_4.toInt := rfl; omega)) dX12_findExit_269 (fun x10 ex10 => ?_)
                have rx10 : 0 ≤ x10.toInt ∧ x10.toInt ≤ 29 := by rw [ex10]; exact hI.2 10 _
                have gx10 : (c 10 (y3_4 : Int32).toNatClampNeg).toInt = x10.toInt := by rw [ex10, show c3 10 = c 10 from hfc 10 (by decide +kernel)]
                refine mput_16 hx hb hts (fun _ h => List.mem_cons_of_mem _ (List.mem_append_right _ h)) hown hK hP hD hS (hts (.fieldLink RX12 263 "TalePlayModel" "leads" "I") (List.mem_cons_of_mem _ (List.mem_append_left _ (List.mem_append_left _ (List.mem_of_getElem? (i := 0) rfl))))) rfl rfl dX12_findExit_270 (fun H locs hP hD hS => ?_)
                have hI := mInv_i hI (k := 16) (v := x10) (show (x10 : Int32).toInt = -9 ∨ (0 ≤ (x10 : Int32).toInt ∧ (x10 : Int32).toInt ≤ 29) from by omega)
                have hfi := fr_i hfi (k := 16) (v := x10) (by decide +kernel)
                exact jn5 (upd (upd (upd i3 18 y3_4) 19 1) 16 x10) q3 c3 d3   hI (fr_w hfi (by decide +kernel)) (fr_w hfc (by decide +kernel)) (show LdR (c 3) (c 6) (c 9) (c 10) (c 11) (c 12) (c 13) (i 8).toInt r1.toInt d1.toInt (x10 : Int32).toInt from by first | (exfalso; omega; done) | exact Or.inr (Or.inr (Or.inl ⟨by rw [hbF]; omega, by rw [hqF]; omega, by rw [hqF]; exact gx10.symm⟩))) _ _ _ hP hD hS (lv_sub hl [0, 1, 2, 3, 4, 5] rfl)
            · have f8 := mt (ti_eq (a := (i3 18).toInt) (b := (-9)) rfl (by decide +kernel)).mpr c8
              refine lv_aload_n hx hb dX12_findExit_228 rfl (lv_at hl 3 rfl) ?_
              refine lv_aload_n hx hb dX12_findExit_229 rfl (lv_at hl 3 rfl) ?_
              refine mget_11 hx hb hts (fun _ h => List.mem_cons_of_mem _ (List.mem_append_right _ h)) hown hK hP (hts (.fieldLink RX12 31 "TalePlayModel" "middle" "[I") (List.mem_cons_of_mem _ (List.mem_append_left _ (List.mem_append_left _ (List.mem_of_getElem? (i := 6) rfl))))) dX12_findExit_230 ?_
              refine lv_aload_n hx hb dX12_findExit_233 rfl (lv_at hl 3 rfl) ?_
              refine mget_18 (v := (i3 18)) rfl hx hb hts (fun _ h => List.mem_cons_of_mem _ (List.mem_append_right _ h)) hown hK hP (hts (.fieldLink RX12 269 "TalePlayModel" "bySentence" "I") (List.mem_cons_of_mem _ (List.mem_append_left _ (List.mem_append_left _ (List.mem_of_getElem? (i := 2) rfl))))) dX12_findExit_234 ?_
              refine mld_11 hx hb hK hP (vp_in_iff.mpr (by have h9 : (i3 18).toInt = (i3 18).toInt := rfl; omega)) dX12_findExit_237 (fun x11 ex11 => ?_)
              have rx11 : 0 ≤ x11.toInt ∧ x11.toInt ≤ 29 := by rw [ex11]; exact hI.2 11 _
              have gx11 : (c 11 ((i3 18) : Int32).toNatClampNeg).toInt = x11.toInt := by rw [ex11, show c3 11 = c 11 from hfc 11 (by decide +kernel)]
              refine mput_16 hx hb hts (fun _ h => List.mem_cons_of_mem _ (List.mem_append_right _ h)) hown hK hP hD hS (hts (.fieldLink RX12 263 "TalePlayModel" "leads" "I") (List.mem_cons_of_mem _ (List.mem_append_left _ (List.mem_append_left _ (List.mem_of_getElem? (i := 0) rfl))))) rfl rfl dX12_findExit_238 (fun H locs hP hD hS => ?_)
              have hI := mInv_i hI (k := 16) (v := x11) (show (x11 : Int32).toInt = -9 ∨ (0 ≤ (x11 : Int32).toInt ∧ (x11 : Int32).toInt ≤ 29) from by omega)
              have hfi := fr_i hfi (k := 16) (v := x11) (by decide +kernel)
              refine lv_goto (tgt := 273) hx hb dX12_findExit_241 (by decide +kernel) ?_
              exact jn5 (upd i3 16 x11) q3 c3 d3   hI (fr_w hfi (by decide +kernel)) (fr_w hfc (by decide +kernel)) (show LdR (c 3) (c 6) (c 9) (c 10) (c 11) (c 12) (c 13) (i 8).toInt r1.toInt d1.toInt (x11 : Int32).toInt from by first | (exfalso; omega) | exact Or.inr (Or.inl ⟨by rw [hbF]; omega, by rw [hbF, show (c 11 (i3 18).toInt.toNat).toInt = x11.toInt from gx11]; exact trivial, by rw [hbF, show (c 11 (i3 18).toInt.toNat).toInt = x11.toInt from gx11]⟩)) _ _ _ hP hD hS (lv_sub hl [0, 1, 2, 3, 4, 5] rfl)
          · have f7 := mt (ti_eq (a := (i3 18).toInt) (b := (-9)) rfl (by decide +kernel)).mpr c7
            refine lv_aload_n hx hb dX12_findExit_173 rfl (lv_at hl 3 rfl) ?_
            refine lv_aload_n hx hb dX12_findExit_174 rfl (lv_at hl 3 rfl) ?_
            refine mget_11 hx hb hts (fun _ h => List.mem_cons_of_mem _ (List.mem_append_right _ h)) hown hK hP (hts (.fieldLink RX12 31 "TalePlayModel" "middle" "[I") (List.mem_cons_of_mem _ (List.mem_append_left _ (List.mem_append_left _ (List.mem_of_getElem? (i := 6) rfl))))) dX12_findExit_175 ?_
            refine lv_aload_n hx hb dX12_findExit_178 rfl (lv_at hl 3 rfl) ?_
            refine mget_18 (v := (i3 18)) rfl hx hb hts (fun _ h => List.mem_cons_of_mem _ (List.mem_append_right _ h)) hown hK hP (hts (.fieldLink RX12 269 "TalePlayModel" "bySentence" "I") (List.mem_cons_of_mem _ (List.mem_append_left _ (List.mem_append_left _ (List.mem_of_getElem? (i := 2) rfl))))) dX12_findExit_179 ?_
            refine mld_11 hx hb hK hP (vp_in_iff.mpr (by have h9 : (i3 18).toInt = (i3 18).toInt := rfl; omega)) dX12_findExit_182 (fun x12 ex12 => ?_)
            have rx12 : 0 ≤ x12.toInt ∧ x12.toInt ≤ 29 := by rw [ex12]; exact hI.2 11 _
            have gx12 : (c 11 ((i3 18) : Int32).toNatClampNeg).toInt = x12.toInt := by rw [ex12, show c3 11 = c 11 from hfc 11 (by decide +kernel)]
            refine lv_iconst (v := 2) hx hb dX12_findExit_183 (by decide +kernel) ?_
            refine ro_calli (va_runV (As := [.int x12, .int 2]) (rest := []) ⟨hx, hb, hml, hown, hts⟩ (s_X12_isOf l D H.size o a t i3 q3 c3 d3 x12 2 hI (show 0 ≤ x12.toInt ∧ x12.toInt ≤ 29 from by have h91 : (2 : Int32).toInt = 2 := (by decide +kernel); omega) (show 0 ≤ 2 from by decide +kernel)) (cwV 2 hts gm_X12_findExit_X12_isOf rfl rfl rfl (by decide +kernel) ⟨Nat.le_of_ble_eq_true rfl, Nat.le_of_ble_eq_true rfl⟩) (pA_V hK hP (ci := 12) (q0 := 0) rfl rfl) rfl rfl hl.1 rfl (lv_room (Nat.le_of_ble_eq_true rfl)) dX12_findExit_184 ⟨Nat.le_of_ble_eq_true rfl, Nat.le_of_ble_eq_true rfl⟩) hS hA hP (fun r13 u13 H locs hw13 hP hS => ?_)
            have hw13 : ((0 ≤ r13.toInt ∧ r13.toInt ≤ 1) ∧ (Sm r13 (Kd (c3 3) (c3 6) x12.toInt 2))) := hw13
            obtain ⟨hw13, hr13_0⟩ := hw13
            have hr13_0 : Sm r13 (Kd (c 3) (c 6) x12.toInt 2) := by have h9 := hr13_0; rw [show c3 3 = c 3 from hfc 3 (by decide +kernel), show c3 6 = c 6 from hfc 6 (by decide +kernel)] at h9; exact h9
            refine lv_if_eq (tgt := 219) hx hb dX12_findExit_187 (by decide +kernel) (fun c14 => ?_) (fun c14 => ?_)
            · have f14 := (ti_eq (a := r13.toInt) (b := 0) rfl (by decide +kernel)).mp c14
              have s14 := sm_f hr13_0 c14
              refine lv_aload_n hx hb dX12_findExit_219 rfl (lv_at hl 3 rfl) ?_
              refine mget_18 (v := (i3 18)) rfl hx hb hts (fun _ h => List.mem_cons_of_mem _ (List.mem_append_right _ h)) hown hK hP (hts (.fieldLink RX12 269 "TalePlayModel" "bySentence" "I") (List.mem_cons_of_mem _ (List.mem_append_left _ (List.mem_append_left _ (List.mem_of_getElem? (i := 2) rfl))))) dX12_findExit_220 ?_
              refine lv_bipush (v := (-9)) hx hb dX12_findExit_223 (by decide +kernel) ?_
              refine lv_icmp_eq (tgt := 244) hx hb dX12_findExit_225 (by decide +kernel) (fun c15 => ?_) (fun c15 => ?_)
              · have f15 := (ti_eq (a := (i3 18).toInt) (b := (-9)) rfl (by decide +kernel)).mp c15
                refine lv_iload hx hb dX12_findExit_244 (lv_at hl 1 rfl) ?_
                refine lv_bipush (v := (-9)) hx hb dX12_findExit_246 (by decide +kernel) ?_
                refine lv_icmp_eq (tgt := 273) hx hb dX12_findExit_248 (by decide +kernel) (fun c16 => ?_) (fun c16 => ?_)
                · have f16 := (ti_eq (a := y3_4.toInt) (b := (-9)) rfl (by decide +kernel)).mp c16
                  exact jn5 i3 q3 c3 d3   hI (fr_w hfi (by decide +kernel)) (fr_w hfc (by decide +kernel)) (show LdR (c 3) (c 6) (c 9) (c 10) (c 11) (c 12) (c 13) (i 8).toInt r1.toInt d1.toInt ((i3 16) : Int32).toInt from by first | exact Or.inr (Or.inr (Or.inr ⟨by rw [hbF]; omega, by rw [hqF]; omega, by omega⟩)) | (exfalso; omega)) _ _ _ hP hD hS (lv_sub hl [0, 1, 2, 3, 4, 5] rfl)
                · have f16 := mt (ti_eq (a := y3_4.toInt) (b := (-9)) rfl (by decide +kernel)).mpr c16
                  refine lv_aload_n hx hb dX12_findExit_251 rfl (lv_at hl 3 rfl) ?_
                  refine lv_iload hx hb dX12_findExit_252 (lv_at hl 1 rfl) ?_
                  refine mput_18 hx hb hts (fun _ h => List.mem_cons_of_mem _ (List.mem_append_right _ h)) hown hK hP hD hS (hts (.fieldLink RX12 269 "TalePlayModel" "bySentence" "I") (List.mem_cons_of_mem _ (List.mem_append_left _ (List.mem_append_left _ (List.mem_of_getElem? (i := 2) rfl))))) rfl rfl dX12_findExit_254 (fun H locs hP hD hS => ?_)
                  have hI := mInv_i hI (k := 18) (v := y3_4) (show (y3_4 : Int32).toInt = -9 ∨ (0 ≤ (y3_4 : Int32).toInt ∧ (y3_4 : Int32).toInt ≤ 199) from by omega)
                  have hfi := fr_i hfi (k := 18) (v := y3_4) (by decide +kernel)
                  refine lv_aload_n hx hb dX12_findExit_257 rfl (lv_at hl 3 rfl) ?_
                  refine lv_iconst (v := 1) hx hb dX12_findExit_258 (by decide +kernel) ?_
                  refine mput_19 hx hb hts (fun _ h => List.mem_cons_of_mem _ (List.mem_append_right _ h)) hown hK hP hD hS (hts (.fieldLink RX12 272 "TalePlayModel" "isImplied" "Z") (List.mem_cons_of_mem _ (List.mem_append_left _ (List.mem_append_left _ (List.mem_of_getElem? (i := 3) rfl))))) rfl rfl dX12_findExit_259 (fun H locs hP hD hS => ?_)
                  have hI := mInv_i hI (k := 19) (v := 1) (show 0 ≤ (1 : Int32).toInt ∧ (1 : Int32).toInt ≤ 1 from by decide +kernel)
                  have hfi := fr_i hfi (k := 19) (v := 1) (by decide +kernel)
                  refine lv_aload_n hx hb dX12_findExit_262 rfl (lv_at hl 3 rfl) ?_
                  refine lv_aload_n hx hb dX12_findExit_263 rfl (lv_at hl 3 rfl) ?_
                  refine mget_10 hx hb hts (fun _ h => List.mem_cons_of_mem _ (List.mem_append_right _ h)) hown hK hP (hts (.fieldLink RX12 28 "TalePlayModel" "left" "[I") (List.mem_cons_of_mem _ (List.mem_append_left _ (List.mem_append_left _ (List.mem_of_getElem? (i := 5) rfl))))) dX12_findExit_264 ?_
                  refine lv_iload hx hb dX12_findExit_267 (lv_at hl 1 rfl) ?_
                  refine mld_10 hx hb hK hP (vp_in_iff.mpr (by have h9 : y3_4.toInt = y3_4.toInt := rfl; omega)) dX12_findExit_269 (fun x17 ex17 => ?_)
                  have rx17 : 0 ≤ x17.toInt ∧ x17.toInt ≤ 29 := by rw [ex17]; exact hI.2 10 _
                  have gx17 : (c 10 (y3_4 : Int32).toNatClampNeg).toInt = x17.toInt := by rw [ex17, show c3 10 = c 10 from hfc 10 (by decide +kernel)]
                  refine mput_16 hx hb hts (fun _ h => List.mem_cons_of_mem _ (List.mem_append_right _ h)) hown hK hP hD hS (hts (.fieldLink RX12 263 "TalePlayModel" "leads" "I") (List.mem_cons_of_mem _ (List.mem_append_left _ (List.mem_append_left _ (List.mem_of_getElem? (i := 0) rfl))))) rfl rfl dX12_findExit_270 (fun H locs hP hD hS => ?_)
                  have hI := mInv_i hI (k := 16) (v := x17) (show (x17 : Int32).toInt = -9 ∨ (0 ≤ (x17 : Int32).toInt ∧ (x17 : Int32).toInt ≤ 29) from by omega)
                  have hfi := fr_i hfi (k := 16) (v := x17) (by decide +kernel)
                  exact jn5 (upd (upd (upd i3 18 y3_4) 19 1) 16 x17) q3 c3 d3   hI (fr_w hfi (by decide +kernel)) (fr_w hfc (by decide +kernel)) (show LdR (c 3) (c 6) (c 9) (c 10) (c 11) (c 12) (c 13) (i 8).toInt r1.toInt d1.toInt (x17 : Int32).toInt from by first | (exfalso; omega; done) | exact Or.inr (Or.inr (Or.inl ⟨by rw [hbF]; omega, by rw [hqF]; omega, by rw [hqF]; exact gx17.symm⟩))) _ _ _ hP hD hS (lv_sub hl [0, 1, 2, 3, 4, 5] rfl)
              · have f15 := mt (ti_eq (a := (i3 18).toInt) (b := (-9)) rfl (by decide +kernel)).mpr c15
                refine lv_aload_n hx hb dX12_findExit_228 rfl (lv_at hl 3 rfl) ?_
                refine lv_aload_n hx hb dX12_findExit_229 rfl (lv_at hl 3 rfl) ?_
                refine mget_11 hx hb hts (fun _ h => List.mem_cons_of_mem _ (List.mem_append_right _ h)) hown hK hP (hts (.fieldLink RX12 31 "TalePlayModel" "middle" "[I") (List.mem_cons_of_mem _ (List.mem_append_left _ (List.mem_append_left _ (List.mem_of_getElem? (i := 6) rfl))))) dX12_findExit_230 ?_
                refine lv_aload_n hx hb dX12_findExit_233 rfl (lv_at hl 3 rfl) ?_
                refine mget_18 (v := (i3 18)) rfl hx hb hts (fun _ h => List.mem_cons_of_mem _ (List.mem_append_right _ h)) hown hK hP (hts (.fieldLink RX12 269 "TalePlayModel" "bySentence" "I") (List.mem_cons_of_mem _ (List.mem_append_left _ (List.mem_append_left _ (List.mem_of_getElem? (i := 2) rfl))))) dX12_findExit_234 ?_
                refine mld_11 hx hb hK hP (vp_in_iff.mpr (by have h9 : (i3 18).toInt = (i3 18).toInt := rfl; omega)) dX12_findExit_237 (fun x18 ex18 => ?_)
                have rx18 : 0 ≤ x18.toInt ∧ x18.toInt ≤ 29 := by rw [ex18]; exact hI.2 11 _
                have gx18 : (c 11 ((i3 18) : Int32).toNatClampNeg).toInt = x18.toInt := by rw [ex18, show c3 11 = c 11 from hfc 11 (by decide +kernel)]
                refine mput_16 hx hb hts (fun _ h => List.mem_cons_of_mem _ (List.mem_append_right _ h)) hown hK hP hD hS (hts (.fieldLink RX12 263 "TalePlayModel" "leads" "I") (List.mem_cons_of_mem _ (List.mem_append_left _ (List.mem_append_left _ (List.mem_of_getElem? (i := 0) rfl))))) rfl rfl dX12_findExit_238 (fun H locs hP hD hS => ?_)
                have hI := mInv_i hI (k := 16) (v := x18) (show (x18 : Int32).toInt = -9 ∨ (0 ≤ (x18 : Int32).toInt ∧ (x18 : Int32).toInt ≤ 29) from by omega)
                have hfi := fr_i hfi (k := 16) (v := x18) (by decide +kernel)
                refine lv_goto (tgt := 273) hx hb dX12_findExit_241 (by decide +kernel) ?_
                exact jn5 (upd i3 16 x18) q3 c3 d3   hI (fr_w hfi (by decide +kernel)) (fr_w hfc (by decide +kernel)) (show LdR (c 3) (c 6) (c 9) (c 10) (c 11) (c 12) (c 13) (i 8).toInt r1.toInt d1.toInt (x18 : Int32).toInt from by first | (exfalso; omega) | exact Or.inr (Or.inl ⟨by rw [hbF]; omega, by rw [hbF, show (c 11 (i3 18).toInt.toNat).toInt = x12.toInt from gx12]; exact s14, by rw [hbF, show (c 11 (i3 18).toInt.toNat).toInt = x18.toInt from gx18]⟩)) _ _ _ hP hD hS (lv_sub hl [0, 1, 2, 3, 4, 5] rfl)
            · have f14 := mt (ti_eq (a := r13.toInt) (b := 0) rfl (by decide +kernel)).mpr c14
              have s14 := sm_t hr13_0 c14
              refine lv_aload_n hx hb dX12_findExit_190 rfl (lv_at hl 3 rfl) ?_
              refine lv_aload_n hx hb dX12_findExit_191 rfl (lv_at hl 3 rfl) ?_
              refine mget_11 hx hb hts (fun _ h => List.mem_cons_of_mem _ (List.mem_append_right _ h)) hown hK hP (hts (.fieldLink RX12 31 "TalePlayModel" "middle" "[I") (List.mem_cons_of_mem _ (List.mem_append_left _ (List.mem_append_left _ (List.mem_of_getElem? (i := 6) rfl))))) dX12_findExit_192 ?_
              refine lv_aload_n hx hb dX12_findExit_195 rfl (lv_at hl 3 rfl) ?_
              refine mget_18 (v := (i3 18)) rfl hx hb hts (fun _ h => List.mem_cons_of_mem _ (List.mem_append_right _ h)) hown hK hP (hts (.fieldLink RX12 269 "TalePlayModel" "bySentence" "I") (List.mem_cons_of_mem _ (List.mem_append_left _ (List.mem_append_left _ (List.mem_of_getElem? (i := 2) rfl))))) dX12_findExit_196 ?_
              refine mld_11 hx hb hK hP (vp_in_iff.mpr (by have h9 : (i3 18).toInt = (i3 18).toInt := rfl; omega)) dX12_findExit_199 (fun x19 ex19 => ?_)
              have rx19 : 0 ≤ x19.toInt ∧ x19.toInt ≤ 29 := by rw [ex19]; exact hI.2 11 _
              have gx19 : (c 11 ((i3 18) : Int32).toNatClampNeg).toInt = x19.toInt := by rw [ex19, show c3 11 = c 11 from hfc 11 (by decide +kernel)]
              refine mput_17 hx hb hts (fun _ h => List.mem_cons_of_mem _ (List.mem_append_right _ h)) hown hK hP hD hS (hts (.fieldLink RX12 266 "TalePlayModel" "byDoor" "I") (List.mem_cons_of_mem _ (List.mem_append_left _ (List.mem_append_left _ (List.mem_of_getElem? (i := 1) rfl))))) rfl rfl dX12_findExit_200 (fun H locs hP hD hS => ?_)
              have hI := mInv_i hI (k := 17) (v := x19) (show (x19 : Int32).toInt = -9 ∨ (0 ≤ (x19 : Int32).toInt ∧ (x19 : Int32).toInt ≤ 29) from by omega)
              have hfi := fr_i hfi (k := 17) (v := x19) (by decide +kernel)
              refine lv_aload_n hx hb dX12_findExit_203 rfl (lv_at hl 3 rfl) ?_
              refine lv_aload_n hx hb dX12_findExit_204 rfl (lv_at hl 3 rfl) ?_
              refine lv_aload_n hx hb dX12_findExit_205 rfl (lv_at hl 3 rfl) ?_
              refine mget_17 (i := (upd i3 17 x19)) (v := x19) rfl hx hb hts (fun _ h => List.mem_cons_of_mem _ (List.mem_append_right _ h)) hown hK hP (hts (.fieldLink RX12 266 "TalePlayModel" "byDoor" "I") (List.mem_cons_of_mem _ (List.mem_append_left _ (List.mem_append_left _ (List.mem_of_getElem? (i := 1) rfl))))) dX12_findExit_206 ?_
              refine lv_iload_n hx hb dX12_findExit_209 rfl (lv_at hl 4 rfl) ?_
              refine ro_calli (va_runV (As := [.int x19, .int r1]) (rest := [.ref o]) ⟨hx, hb, hml, hown, hts⟩ (s_X12_otherSide l D H.size o a t (upd i3 17 x19) q3 c3 d3 x19 r1 hI ) (cwV 2 hts gm_X12_findExit_X12_otherSide rfl rfl rfl (by decide +kernel) ⟨Nat.le_of_ble_eq_true rfl, Nat.le_of_ble_eq_true rfl⟩) (pA_V hK hP (ci := 12) (q0 := 0) rfl rfl) rfl rfl hl.1 rfl (lv_room (Nat.le_of_ble_eq_true rfl)) dX12_findExit_210 ⟨Nat.le_of_ble_eq_true rfl, Nat.le_of_ble_eq_true rfl⟩) hS hA hP (fun r20 u20 H locs hw20 hP hS => ?_)
              have hw20 : ((r20.toInt = -9 ∨ (0 ≤ r20.toInt ∧ r20.toInt ≤ 29)) ∧ (r20.toInt = oS (c3 9) (c3 10) (c3 11) (c3 13) ((upd i3 17 x19) 8).toInt x19.toInt r1.toInt)) := hw20
              obtain ⟨hw20, hr20_0⟩ := hw20
              have hr20_0 : r20.toInt = oS (c 9) (c 10) (c 11) (c 13) (i 8).toInt x19.toInt r1.toInt := by have h9 := hr20_0; rw [show c3 9 = c 9 from hfc 9 (by decide +kernel), show c3 10 = c 10 from hfc 10 (by decide +kernel), show c3 11 = c 11 from hfc 11 (by decide +kernel), show c3 13 = c 13 from hfc 13 (by decide +kernel), show (upd i3 17 x19) 8 = i 8 from hfi 8 (by decide +kernel)] at h9; exact h9
              refine mput_16 hx hb hts (fun _ h => List.mem_cons_of_mem _ (List.mem_append_right _ h)) hown hK hP hD hS (hts (.fieldLink RX12 263 "TalePlayModel" "leads" "I") (List.mem_cons_of_mem _ (List.mem_append_left _ (List.mem_append_left _ (List.mem_of_getElem? (i := 0) rfl))))) rfl rfl dX12_findExit_213 (fun H locs hP hD hS => ?_)
              have hI := mInv_i hI (k := 16) (v := r20) (show (r20 : Int32).toInt = -9 ∨ (0 ≤ (r20 : Int32).toInt ∧ (r20 : Int32).toInt ≤ 29) from by omega)
              have hfi := fr_i hfi (k := 16) (v := r20) (by decide +kernel)
              refine lv_goto (tgt := 273) hx hb dX12_findExit_216 (by decide +kernel) ?_
              exact jn5 (upd (upd i3 17 x19) 16 r20) q3 c3 d3   hI (fr_w hfi (by decide +kernel)) (fr_w hfc (by decide +kernel)) (show LdR (c 3) (c 6) (c 9) (c 10) (c 11) (c 12) (c 13) (i 8).toInt r1.toInt d1.toInt (r20 : Int32).toInt from Or.inl ⟨by rw [hbF]; omega, by rw [hbF, show (c 11 (i3 18).toInt.toNat).toInt = x12.toInt from gx12]; exact s14, by rw [hbF, show (c 11 (i3 18).toInt.toNat).toInt = x19.toInt from gx19]; exact hr20_0⟩) _ _ _ hP hD hS (lv_sub hl [0, 1, 2, 3, 4, 5] rfl)
        · have f4 := mt (ti_le (a := (i3 8).toInt) (b := y3_5.toInt) rfl rfl).mpr c4
          refine lv_aload_n hx hb dX12_findExit_55 rfl (lv_at hl 3 rfl) ?_
          refine mget_13 hx hb hts (fun _ h => List.mem_cons_of_mem _ (List.mem_append_right _ h)) hown hK hP (hts (.fieldLink RX12 37 "TalePlayModel" "isSaid" "[Z") (List.mem_cons_of_mem _ (List.mem_append_left _ (List.mem_append_right _ (List.mem_of_getElem? (i := 2) rfl))))) dX12_findExit_56 ?_
          refine lv_iload hx hb dX12_findExit_59 (lv_at hl 0 rfl) ?_
          refine mld_13 hx hb hK hP (vp_in_iff.mpr (by have h9 : y3_5.toInt = y3_5.toInt := rfl; omega)) dX12_findExit_61 (fun x21 ex21 => ?_)
          have rx21 : 0 ≤ x21.toInt ∧ x21.toInt ≤ 1 := by rw [ex21]; exact hI.2 13 _
          have gx21 : (c 13 (y3_5 : Int32).toNatClampNeg).toInt = x21.toInt := by rw [ex21, show c3 13 = c 13 from hfc 13 (by decide +kernel)]
          have jn22 : ∀ (i22 : Nat → Int32) (q22 : Int64) (c22 : Nat → Nat → Int32) (d22 : Nat → Nat → Int64), mInv i22 c22 → (∀ k, k ∉ ([16, 17, 18, 19] : List Nat) → i22 k = i k) → (∀ k, k ∉ ([] : List Nat) → c22 k = c k) → (lst (bP (c 9) (c 10) (c 12) (c 13) r1.toInt d1.toInt) (y3_5.toInt.toNat + 1) ((i22 18) : Int32).toInt) → (((i22 16) : Int32).toInt = -9) → ∀ (H : Heap) (locs : List Loc) (ls : Array Slot), va_P D vwCl (mW o a t i22 q22 c22 d22) H → va_D A (mW o a t i22 q22 c22 d22) → va_S A s.heap H locs → lv_has ls 6 [(5, .int y3_5), (4, .int y3_4), (3, .int z2_0), (0, .ref o), (1, .int r1), (2, .int d1)] → W p l e (headSpec wm_X12_findExit ({ frames := 1, cells := 0, slots := 0, locals := 23 })).room s m ([.ref o, .int r1, .int d1] : List Value).toArray below meth cd H locs 0 0 (MQ below (va_Qi (fun (r : Int32) (u : MS) => (0 ≤ r.toInt ∧ r.toInt ≤ 1) ∧ mInv u.1 u.2.2.1 ∧ (∀ k, k ∉ ([16, 17, 18, 19] : List Nat) → u.1 k = i k) ∧ (∀ k, k ∉ ([] : List Nat) → u.2.2.1 k = c k) ∧ (LdR (c 3) (c 6) (c 9) (c 10) (c 11) (c 12) (c 13) (i 8).toInt r1.toInt d1.toInt (u.1 16).toInt)) (oC D A (fun u : MS => mW o a t u.1 u.2.1 u.2.2.1 u.2.2.2) (fun _ => [])) A) ([.ref o, .int r1, .int d1] : List Value).toArray s 0 0 A) (F0 m 104 ls []) := by
            intro i22 q22 c22 d22 hI hfi hfc hz22_0 hz22_1 H locs ls hP hD hS hl
            refine lv_aload_n hx hb dX12_findExit_104 rfl (lv_at hl 3 rfl) ?_
            refine mget_13 hx hb hts (fun _ h => List.mem_cons_of_mem _ (List.mem_append_right _ h)) hown hK hP (hts (.fieldLink RX12 37 "TalePlayModel" "isSaid" "[Z") (List.mem_cons_of_mem _ (List.mem_append_left _ (List.mem_append_right _ (List.mem_of_getElem? (i := 2) rfl))))) dX12_findExit_105 ?_
            refine lv_iload hx hb dX12_findExit_108 (lv_at hl 0 rfl) ?_
            refine mld_13 hx hb hK hP (vp_in_iff.mpr (by have h9 : y3_5.toInt = y3_5.toInt := rfl; omega)) dX12_findExit_110 (fun x23 ex23 => ?_)
            have rx23 : 0 ≤ x23.toInt ∧ x23.toInt ≤ 1 := by rw [ex23]; exact hI.2 13 _
            have gx23 : (c 13 (y3_5 : Int32).toNatClampNeg).toInt = x23.toInt := by rw [ex23, show c22 13 = c 13 from hfc 13 (by decide +kernel)]
            have jn24 : ∀ (y24_4 : Int32), (y24_4.toInt = -9 ∨ (0 ≤ y24_4.toInt ∧ y24_4.toInt ≤ 199)) → (fst (qP (c 9) (c 11) (c 12) (c 13) r1.toInt (opp d1.toInt)) (y3_5.toInt.toNat + 1) y24_4.toInt) → ∀ (H : Heap) (locs : List Loc) (ls : Array Slot), va_P D vwCl (mW o a t i22 q22 c22 d22) H → va_D A (mW o a t i22 q22 c22 d22) → va_S A s.heap H locs → lv_has ls 6 [(5, .int y3_5), (3, .int z2_0), (0, .ref o), (1, .int r1), (2, .int d1), (4, .int y24_4)] → W p l e (headSpec wm_X12_findExit ({ frames := 1, cells := 0, slots := 0, locals := 23 })).room s m ([.ref o, .int r1, .int d1] : List Value).toArray below meth cd H locs 0 0 (MQ below (va_Qi (fun (r : Int32) (u : MS) => (0 ≤ r.toInt ∧ r.toInt ≤ 1) ∧ mInv u.1 u.2.2.1 ∧ (∀ k, k ∉ ([16, 17, 18, 19] : List Nat) → u.1 k = i k) ∧ (∀ k, k ∉ ([] : List Nat) → u.2.2.1 k = c k) ∧ (LdR (c 3) (c 6) (c 9) (c 10) (c 11) (c 12) (c 13) (i 8).toInt r1.toInt d1.toInt (u.1 16).toInt)) (oC D A (fun u : MS => mW o a t u.1 u.2.1 u.2.2.1 u.2.2.2) (fun _ => [])) A) ([.ref o, .int r1, .int d1] : List Value).toArray s 0 0 A) (F0 m 158 ls []) := by
              intro y24_4 hy24_4 hz24_0 H locs ls hP hD hS hl
              obtain ⟨x25, ex25⟩ : ∃ y : Int32, y = y3_5 + 1 := ⟨_, rfl⟩
              have tx25 := ti_add (a := y3_5.toInt) (b := 1) ex25 rfl (by decide +kernel) (by omega) (by omega)
              refine lv_iinc (v := x25) (lv' := [(5, .int x25), (3, .int z2_0), (0, .ref o), (1, .int r1), (2, .int d1), (4, .int y24_4)]) hx hb dX12_findExit_158 hl (k := 0) rfl (by rw [ex25]; rfl) (by decide +kernel) rfl (fun ls hl => ?_)
              refine lv_goto (tgt := 46) hx hb dX12_findExit_161 (by decide +kernel) ?_
              exact ih3 i22 q22 c22 d22 x25 y24_4 hI (fr_w hfi (by decide +kernel)) (fr_w hfc (by decide +kernel)) (show 0 ≤ x25.toInt ∧ x25.toInt ≤ 200 ∧ x25.toInt ≤ (i 8).toInt from by have h50 : x25.toInt = (y3_5.toInt + 1) := tx25; omega) (show y24_4.toInt = -9 ∨ (0 ≤ y24_4.toInt ∧ y24_4.toInt ≤ 199) from by have h50 : x25.toInt = (y3_5.toInt + 1) := tx25; omega) (show lst (bP (c 9) (c 10) (c 12) (c 13) r1.toInt d1.toInt) x25.toInt.toNat ((i22 18) : Int32).toInt from lst_g hz22_0 (by omega) tx25) (show fst (qP (c 9) (c 11) (c 12) (c 13) r1.toInt (opp d1.toInt)) x25.toInt.toNat y24_4.toInt from fst_g hz24_0 (by omega) tx25) (show ((i22 16) : Int32).toInt = -9 from by have h50 : x25.toInt = (y3_5.toInt + 1) := tx25; omega) (by have h50 : x25.toInt = (y3_5.toInt + 1) := tx25; omega) _ _ _ hP hD hS (lv_sub hl [0, 5, 1, 2, 3, 4] rfl)
            refine lv_if_eq (tgt := 158) hx hb dX12_findExit_111 (by decide +kernel) (fun c26 => ?_) (fun c26 => ?_)
            · have f26 := (ti_eq (a := x23.toInt) (b := 0) rfl (by decide +kernel)).mp c26
              exact jn24 y3_4  (show y3_4.toInt = -9 ∨ (0 ≤ y3_4.toInt ∧ y3_4.toInt ≤ 199) from by omega) (show fst (qP (c 9) (c 11) (c 12) (c 13) r1.toInt (opp d1.toInt)) (y3_5.toInt.toNat + 1) y3_4.toInt from by first | exact fst_n hz3_1 (Or.inl (by unfold qP; omega)) | exact fst_n hz3_1 (Or.inr (by omega))) _ _ _ hP hD hS (lv_sub hl [0, 2, 3, 4, 5, 1] rfl)
            · have f26 := mt (ti_eq (a := x23.toInt) (b := 0) rfl (by decide +kernel)).mpr c26
              refine lv_aload_n hx hb dX12_findExit_114 rfl (lv_at hl 3 rfl) ?_
              refine mget_9 hx hb hts (fun _ h => List.mem_cons_of_mem _ (List.mem_append_right _ h)) hown hK hP (hts (.fieldLink RX12 25 "TalePlayModel" "form" "[I") (List.mem_cons_of_mem _ (List.mem_append_left _ (List.mem_append_right _ (List.mem_of_getElem? (i := 3) rfl))))) dX12_findExit_115 ?_
              refine lv_iload hx hb dX12_findExit_118 (lv_at hl 0 rfl) ?_
              refine mld_9 hx hb hK hP (vp_in_iff.mpr (by have h9 : y3_5.toInt = y3_5.toInt := rfl; omega)) dX12_findExit_120 (fun x27 ex27 => ?_)
              have rx27 : 0 ≤ x27.toInt ∧ x27.toInt ≤ 7 := by rw [ex27]; exact hI.2 9 _
              have gx27 : (c 9 (y3_5 : Int32).toNatClampNeg).toInt = x27.toInt := by rw [ex27, show c22 9 = c 9 from hfc 9 (by decide +kernel)]
              refine lv_iconst (v := 5) hx hb dX12_findExit_121 (by decide +kernel) ?_
              refine lv_icmp_ne (tgt := 158) hx hb dX12_findExit_122 (by decide +kernel) (fun c28 => ?_) (fun c28 => ?_)
              · have f28 := mt (ti_eq (a := x27.toInt) (b := 5) rfl (by decide +kernel)).mpr c28
                exact jn24 y3_4  (show y3_4.toInt = -9 ∨ (0 ≤ y3_4.toInt ∧ y3_4.toInt ≤ 199) from by omega) (show fst (qP (c 9) (c 11) (c 12) (c 13) r1.toInt (opp d1.toInt)) (y3_5.toInt.toNat + 1) y3_4.toInt from by first | exact fst_n hz3_1 (Or.inl (by unfold qP; omega)) | exact fst_n hz3_1 (Or.inr (by omega))) _ _ _ hP hD hS (lv_sub hl [0, 2, 3, 4, 5, 1] rfl)
              · have f28 := (ti_eq (a := x27.toInt) (b := 5) rfl (by decide +kernel)).mp c28
                refine lv_aload_n hx hb dX12_findExit_125 rfl (lv_at hl 3 rfl) ?_
                refine mget_11 hx hb hts (fun _ h => List.mem_cons_of_mem _ (List.mem_append_right _ h)) hown hK hP (hts (.fieldLink RX12 31 "TalePlayModel" "middle" "[I") (List.mem_cons_of_mem _ (List.mem_append_left _ (List.mem_append_left _ (List.mem_of_getElem? (i := 6) rfl))))) dX12_findExit_126 ?_
                refine lv_iload hx hb dX12_findExit_129 (lv_at hl 0 rfl) ?_
                refine mld_11 hx hb hK hP (vp_in_iff.mpr (by have h9 : y3_5.toInt = y3_5.toInt := rfl; omega)) dX12_findExit_131 (fun x29 ex29 => ?_)
                have rx29 : 0 ≤ x29.toInt ∧ x29.toInt ≤ 29 := by rw [ex29]; exact hI.2 11 _
                have gx29 : (c 11 (y3_5 : Int32).toNatClampNeg).toInt = x29.toInt := by rw [ex29, show c22 11 = c 11 from hfc 11 (by decide +kernel)]
                refine lv_iload_n hx hb dX12_findExit_132 rfl (lv_at hl 4 rfl) ?_
                refine lv_icmp_ne (tgt := 158) hx hb dX12_findExit_133 (by decide +kernel) (fun c30 => ?_) (fun c30 => ?_)
                · have f30 := mt (ti_eq (a := x29.toInt) (b := r1.toInt) rfl rfl).mpr c30
                  exact jn24 y3_4  (show y3_4.toInt = -9 ∨ (0 ≤ y3_4.toInt ∧ y3_4.toInt ≤ 199) from by omega) (show fst (qP (c 9) (c 11) (c 12) (c 13) r1.toInt (opp d1.toInt)) (y3_5.toInt.toNat + 1) y3_4.toInt from by first | exact fst_n hz3_1 (Or.inl (by unfold qP; omega)) | exact fst_n hz3_1 (Or.inr (by omega))) _ _ _ hP hD hS (lv_sub hl [0, 2, 3, 4, 5, 1] rfl)
                · have f30 := (ti_eq (a := x29.toInt) (b := r1.toInt) rfl rfl).mp c30
                  refine lv_aload_n hx hb dX12_findExit_136 rfl (lv_at hl 3 rfl) ?_
                  refine mget_12 hx hb hts (fun _ h => List.mem_cons_of_mem _ (List.mem_append_right _ h)) hown hK hP (hts (.fieldLink RX12 34 "TalePlayModel" "right" "[I") (List.mem_cons_of_mem _ (List.mem_append_left _ (List.mem_append_right _ (List.mem_of_getElem? (i := 4) rfl))))) dX12_findExit_137 ?_
                  refine lv_iload hx hb dX12_findExit_140 (lv_at hl 0 rfl) ?_
                  refine mld_12 hx hb hK hP (vp_in_iff.mpr (by have h9 : y3_5.toInt = y3_5.toInt := rfl; omega)) dX12_findExit_142 (fun x31 ex31 => ?_)
                  have rx31 : 0 ≤ x31.toInt ∧ x31.toInt ≤ 9 := by rw [ex31]; exact hI.2 12 _
                  have gx31 : (c 12 (y3_5 : Int32).toNatClampNeg).toInt = x31.toInt := by rw [ex31, show c22 12 = c 12 from hfc 12 (by decide +kernel)]
                  refine lv_iload_n hx hb dX12_findExit_143 rfl (lv_at hl 2 rfl) ?_
                  refine lv_icmp_ne (tgt := 158) hx hb dX12_findExit_144 (by decide +kernel) (fun c32 => ?_) (fun c32 => ?_)
                  · have f32 := mt (ti_eq (a := x31.toInt) (b := z2_0.toInt) rfl rfl).mpr c32
                    exact jn24 y3_4  (show y3_4.toInt = -9 ∨ (0 ≤ y3_4.toInt ∧ y3_4.toInt ≤ 199) from by omega) (show fst (qP (c 9) (c 11) (c 12) (c 13) r1.toInt (opp d1.toInt)) (y3_5.toInt.toNat + 1) y3_4.toInt from by first | exact fst_n hz3_1 (Or.inl (by unfold qP; omega)) | exact fst_n hz3_1 (Or.inr (by omega))) _ _ _ hP hD hS (lv_sub hl [0, 2, 3, 4, 5, 1] rfl)
                  · have f32 := (ti_eq (a := x31.toInt) (b := z2_0.toInt) rfl rfl).mp c32
                    refine lv_iload hx hb dX12_findExit_147 (lv_at hl 1 rfl) ?_
                    refine lv_bipush (v := (-9)) hx hb dX12_findExit_149 (by decide +kernel) ?_
                    refine lv_icmp_ne (tgt := 158) hx hb dX12_findExit_151 (by decide +kernel) (fun c33 => ?_) (fun c33 => ?_)
                    · have f33 := mt (ti_eq (a := y3_4.toInt) (b := (-9)) rfl (by decide +kernel)).mpr c33
                      exact jn24 y3_4  (show y3_4.toInt = -9 ∨ (0 ≤ y3_4.toInt ∧ y3_4.toInt ≤ 199) from by omega) (show fst (qP (c 9) (c 11) (c 12) (c 13) r1.toInt (opp d1.toInt)) (y3_5.toInt.toNat + 1) y3_4.toInt from by first | exact fst_n hz3_1 (Or.inl (by unfold qP; omega)) | exact fst_n hz3_1 (Or.inr (by omega))) _ _ _ hP hD hS (lv_sub hl [0, 2, 3, 4, 5, 1] rfl)
                    · have f33 := (ti_eq (a := y3_4.toInt) (b := (-9)) rfl (by decide +kernel)).mp c33
                      refine lv_iload hx hb dX12_findExit_154 (lv_at hl 0 rfl) ?_
                      refine lv_istore (lv' := [(4, .int y3_5), (5, .int y3_5), (3, .int z2_0), (0, .ref o), (1, .int r1), (2, .int d1)]) hx hb dX12_findExit_156 hl (by decide +kernel) rfl (fun ls hl => ?_)
                      exact jn24 y3_5  (show y3_5.toInt = -9 ∨ (0 ≤ y3_5.toInt ∧ y3_5.toInt ≤ 199) from by omega) (show fst (qP (c 9) (c 11) (c 12) (c 13) r1.toInt (opp d1.toInt)) (y3_5.toInt.toNat + 1) y3_5.toInt from fst_y hz3_1 (by omega) (by omega) (by unfold qP; omega)) _ _ _ hP hD hS (lv_sub hl [1, 2, 3, 4, 5, 0] rfl)
          refine lv_if_eq (tgt := 104) hx hb dX12_findExit_62 (by decide +kernel) (fun c34 => ?_) (fun c34 => ?_)
          · have f34 := (ti_eq (a := x21.toInt) (b := 0) rfl (by decide +kernel)).mp c34
            exact jn22 i3 q3 c3 d3   hI (fr_w hfi (by decide +kernel)) (fr_w hfc (by decide +kernel)) (show lst (bP (c 9) (c 10) (c 12) (c 13) r1.toInt d1.toInt) (y3_5.toInt.toNat + 1) ((i3 18) : Int32).toInt from lst_n hz3_0 (by unfold bP; omega)) (show ((i3 16) : Int32).toInt = -9 from by omega) _ _ _ hP hD hS (lv_sub hl [0, 1, 2, 3, 4, 5] rfl)
          · have f34 := mt (ti_eq (a := x21.toInt) (b := 0) rfl (by decide +kernel)).mpr c34
            refine lv_aload_n hx hb dX12_findExit_65 rfl (lv_at hl 3 rfl) ?_
            refine mget_9 hx hb hts (fun _ h => List.mem_cons_of_mem _ (List.mem_append_right _ h)) hown hK hP (hts (.fieldLink RX12 25 "TalePlayModel" "form" "[I") (List.mem_cons_of_mem _ (List.mem_append_left _ (List.mem_append_right _ (List.mem_of_getElem? (i := 3) rfl))))) dX12_findExit_66 ?_
            refine lv_iload hx hb dX12_findExit_69 (lv_at hl 0 rfl) ?_
            refine mld_9 hx hb hK hP (vp_in_iff.mpr (by have h9 : y3_5.toInt = y3_5.toInt := rfl; omega)) dX12_findExit_71 (fun x35 ex35 => ?_)
            have rx35 : 0 ≤ x35.toInt ∧ x35.toInt ≤ 7 := by rw [ex35]; exact hI.2 9 _
            have gx35 : (c 9 (y3_5 : Int32).toNatClampNeg).toInt = x35.toInt := by rw [ex35, show c3 9 = c 9 from hfc 9 (by decide +kernel)]
            refine lv_iconst (v := 5) hx hb dX12_findExit_72 (by decide +kernel) ?_
            refine lv_icmp_ne (tgt := 104) hx hb dX12_findExit_73 (by decide +kernel) (fun c36 => ?_) (fun c36 => ?_)
            · have f36 := mt (ti_eq (a := x35.toInt) (b := 5) rfl (by decide +kernel)).mpr c36
              exact jn22 i3 q3 c3 d3   hI (fr_w hfi (by decide +kernel)) (fr_w hfc (by decide +kernel)) (show lst (bP (c 9) (c 10) (c 12) (c 13) r1.toInt d1.toInt) (y3_5.toInt.toNat + 1) ((i3 18) : Int32).toInt from lst_n hz3_0 (by unfold bP; omega)) (show ((i3 16) : Int32).toInt = -9 from by omega) _ _ _ hP hD hS (lv_sub hl [0, 1, 2, 3, 4, 5] rfl)
            · have f36 := (ti_eq (a := x35.toInt) (b := 5) rfl (by decide +kernel)).mp c36
              refine lv_aload_n hx hb dX12_findExit_76 rfl (lv_at hl 3 rfl) ?_
              refine mget_10 hx hb hts (fun _ h => List.mem_cons_of_mem _ (List.mem_append_right _ h)) hown hK hP (hts (.fieldLink RX12 28 "TalePlayModel" "left" "[I") (List.mem_cons_of_mem _ (List.mem_append_left _ (List.mem_append_left _ (List.mem_of_getElem? (i := 5) rfl))))) dX12_findExit_77 ?_
              refine lv_iload hx hb dX12_findExit_80 (lv_at hl 0 rfl) ?_
              refine mld_10 hx hb hK hP (vp_in_iff.mpr (by have h9 : y3_5.toInt = y3_5.toInt := rfl; omega)) dX12_findExit_82 (fun x37 ex37 => ?_)
              have rx37 : 0 ≤ x37.toInt ∧ x37.toInt ≤ 29 := by rw [ex37]; exact hI.2 10 _
              have gx37 : (c 10 (y3_5 : Int32).toNatClampNeg).toInt = x37.toInt := by rw [ex37, show c3 10 = c 10 from hfc 10 (by decide +kernel)]
              refine lv_iload_n hx hb dX12_findExit_83 rfl (lv_at hl 4 rfl) ?_
              refine lv_icmp_ne (tgt := 104) hx hb dX12_findExit_84 (by decide +kernel) (fun c38 => ?_) (fun c38 => ?_)
              · have f38 := mt (ti_eq (a := x37.toInt) (b := r1.toInt) rfl rfl).mpr c38
                exact jn22 i3 q3 c3 d3   hI (fr_w hfi (by decide +kernel)) (fr_w hfc (by decide +kernel)) (show lst (bP (c 9) (c 10) (c 12) (c 13) r1.toInt d1.toInt) (y3_5.toInt.toNat + 1) ((i3 18) : Int32).toInt from lst_n hz3_0 (by unfold bP; omega)) (show ((i3 16) : Int32).toInt = -9 from by omega) _ _ _ hP hD hS (lv_sub hl [0, 1, 2, 3, 4, 5] rfl)
              · have f38 := (ti_eq (a := x37.toInt) (b := r1.toInt) rfl rfl).mp c38
                refine lv_aload_n hx hb dX12_findExit_87 rfl (lv_at hl 3 rfl) ?_
                refine mget_12 hx hb hts (fun _ h => List.mem_cons_of_mem _ (List.mem_append_right _ h)) hown hK hP (hts (.fieldLink RX12 34 "TalePlayModel" "right" "[I") (List.mem_cons_of_mem _ (List.mem_append_left _ (List.mem_append_right _ (List.mem_of_getElem? (i := 4) rfl))))) dX12_findExit_88 ?_
                refine lv_iload hx hb dX12_findExit_91 (lv_at hl 0 rfl) ?_
                refine mld_12 hx hb hK hP (vp_in_iff.mpr (by have h9 : y3_5.toInt = y3_5.toInt := rfl; omega)) dX12_findExit_93 (fun x39 ex39 => ?_)
                have rx39 : 0 ≤ x39.toInt ∧ x39.toInt ≤ 9 := by rw [ex39]; exact hI.2 12 _
                have gx39 : (c 12 (y3_5 : Int32).toNatClampNeg).toInt = x39.toInt := by rw [ex39, show c3 12 = c 12 from hfc 12 (by decide +kernel)]
                refine lv_iload_n hx hb dX12_findExit_94 rfl (lv_at hl 5 rfl) ?_
                refine lv_icmp_ne (tgt := 104) hx hb dX12_findExit_95 (by decide +kernel) (fun c40 => ?_) (fun c40 => ?_)
                · have f40 := mt (ti_eq (a := x39.toInt) (b := d1.toInt) rfl rfl).mpr c40
                  exact jn22 i3 q3 c3 d3   hI (fr_w hfi (by decide +kernel)) (fr_w hfc (by decide +kernel)) (show lst (bP (c 9) (c 10) (c 12) (c 13) r1.toInt d1.toInt) (y3_5.toInt.toNat + 1) ((i3 18) : Int32).toInt from lst_n hz3_0 (by unfold bP; omega)) (show ((i3 16) : Int32).toInt = -9 from by omega) _ _ _ hP hD hS (lv_sub hl [0, 1, 2, 3, 4, 5] rfl)
                · have f40 := (ti_eq (a := x39.toInt) (b := d1.toInt) rfl rfl).mp c40
                  refine lv_aload_n hx hb dX12_findExit_98 rfl (lv_at hl 3 rfl) ?_
                  refine lv_iload hx hb dX12_findExit_99 (lv_at hl 0 rfl) ?_
                  refine mput_18 hx hb hts (fun _ h => List.mem_cons_of_mem _ (List.mem_append_right _ h)) hown hK hP hD hS (hts (.fieldLink RX12 269 "TalePlayModel" "bySentence" "I") (List.mem_cons_of_mem _ (List.mem_append_left _ (List.mem_append_left _ (List.mem_of_getElem? (i := 2) rfl))))) rfl rfl dX12_findExit_101 (fun H locs hP hD hS => ?_)
                  have hI := mInv_i hI (k := 18) (v := y3_5) (show (y3_5 : Int32).toInt = -9 ∨ (0 ≤ (y3_5 : Int32).toInt ∧ (y3_5 : Int32).toInt ≤ 199) from by omega)
                  have hfi := fr_i hfi (k := 18) (v := y3_5) (by decide +kernel)
                  exact jn22 (upd i3 18 y3_5) q3 c3 d3   hI (fr_w hfi (by decide +kernel)) (fr_w hfc (by decide +kernel)) (show lst (bP (c 9) (c 10) (c 12) (c 13) r1.toInt d1.toInt) (y3_5.toInt.toNat + 1) (y3_5 : Int32).toInt from lst_y (by omega) (by unfold bP; omega)) (show ((i3 16) : Int32).toInt = -9 from by omega) _ _ _ hP hD hS (lv_sub hl [0, 1, 2, 3, 4, 5] rfl)
    exact lp3 _ (upd (upd (upd (upd i 16 (-9)) 17 (-9)) 18 (-9)) 19 0) q c d (0 : Int32) ((-9) : Int32) hI (fr_w hfi (by decide +kernel)) (fr_w hfc (by decide +kernel)) (show 0 ≤ (0 : Int32).toInt ∧ (0 : Int32).toInt ≤ 200 ∧ (0 : Int32).toInt ≤ (i 8).toInt from by have h50 : (0 : Int32).toInt = 0 := (by decide +kernel); have h51 : ((-9) : Int32).toInt = -9 := (by decide +kernel); have h60 : ((-9) : Int32).toInt = -9 := (by decide +kernel); have h61 : ((-9) : Int32).toInt = -9 := (by decide +kernel); have h62 : ((-9) : Int32).toInt = -9 := (by decide +kernel); have h63 : (0 : Int32).toInt = 0 := (by decide +kernel); omega) (show ((-9) : Int32).toInt = -9 ∨ (0 ≤ ((-9) : Int32).toInt ∧ ((-9) : Int32).toInt ≤ 199) from by decide +kernel) (show lst (bP (c 9) (c 10) (c 12) (c 13) r1.toInt d1.toInt) (0 : Int32).toInt.toNat ((-9) : Int32).toInt from lst_0 (by decide +kernel) (by decide +kernel)) (show fst (qP (c 9) (c 11) (c 12) (c 13) r1.toInt (opp d1.toInt)) (0 : Int32).toInt.toNat ((-9) : Int32).toInt from fst_0 (by decide +kernel) (by decide +kernel)) (show ((-9) : Int32).toInt = -9 from by decide +kernel) (Nat.lt_succ_self _) _ _ _ hP hD hS (lv_sub hl [0, 1, 2, 3, 4, 5] rfl)
  refine lv_if_ne (tgt := 35) hx hb dX12_findExit_26 (by decide +kernel) (fun c41 => ?_) (fun c41 => ?_)
  · have f41 := mt (ti_eq (a := x1.toInt) (b := 0) rfl (by decide +kernel)).mpr c41
    refine lv_iload_n hx hb dX12_findExit_35 rfl (lv_at hl 2 rfl) ?_
    refine lv_iconst (v := 1) hx hb dX12_findExit_36 (by decide +kernel) ?_
    refine lv_isub hx hb dX12_findExit_37 ?_
    refine lv_topi (fun x42 ex42 => ?_)
    have tx42 := ti_sub (a := d1.toInt) (b := 1) ex42 rfl (by decide +kernel) (by omega) (by omega)
    exact jn2  x42 (show x42.toInt = opp d1.toInt from by first | (rw [opp_e (by have h9 := rem2 ex1 hd1; omega)]; have h50 : x42.toInt = (d1.toInt - 1) := tx42; omega) | (rw [opp_o (by have h9 := rem2 ex1 hd1; omega)]; have h50 : x42.toInt = (d1.toInt - 1) := tx42; omega)) _ _ _ hP hD hS (lv_sub hl [0, 1, 2] rfl)
  · have f41 := (ti_eq (a := x1.toInt) (b := 0) rfl (by decide +kernel)).mp c41
    refine lv_iload_n hx hb dX12_findExit_29 rfl (lv_at hl 2 rfl) ?_
    refine lv_iconst (v := 1) hx hb dX12_findExit_30 (by decide +kernel) ?_
    refine lv_iadd hx hb dX12_findExit_31 ?_
    refine lv_topi (fun x43 ex43 => ?_)
    have tx43 := ti_add (a := d1.toInt) (b := 1) ex43 rfl (by decide +kernel) (by omega) (by omega)
    refine lv_goto (tgt := 38) hx hb dX12_findExit_32 (by decide +kernel) ?_
    exact jn2  x43 (show x43.toInt = opp d1.toInt from by first | (rw [opp_e (by have h9 := rem2 ex1 hd1; omega)]; have h50 : x43.toInt = (d1.toInt + 1) := tx43; omega) | (rw [opp_o (by have h9 := rem2 ex1 hd1; omega)]; have h50 : x43.toInt = (d1.toInt + 1) := tx43; omega)) _ _ _ hP hD hS (lv_sub hl [0, 1, 2] rfl)

