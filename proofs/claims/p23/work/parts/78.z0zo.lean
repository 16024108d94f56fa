def wm_X6_roomOf_eLTS : List Cond := .code yX6_roomOf cX6_roomOf 4 (some .int) :: (([.fieldLink RX6 15 "TalePlay$Scene" "world" "LTalePlay$World;", .methodLink RX6 29 yX10_sortOf, .instanceMethod yX10_sortOf, .selects RX10 yX10_sortOf yX10_sortOf, .initialized RX10, .code yX10_sortOf cX10_sortOf 2 (some .int), .fieldLink RX10 37 "TalePlay$World" "objects" "I", .fieldLink RX10 15 "TalePlay$World" "sorts" "[I", .fieldLink RX10 21 "TalePlay$World" "kindOf" "[I", .methodLink RX6 25 yX6_holderOf, .instanceMethod yX6_holderOf, .selects RX6 yX6_holderOf yX6_holderOf, .initialized RX6, .code yX6_holderOf cX6_holderOf 3 (some .int), .fieldLink RX6 9 "TalePlay$Scene" "cells" "[I"] : List Cond) ++ wsX60 ++ wsX100)
set_option maxRecDepth 20000 in
theorem gm_X6_roomOf_eLTS_X10_sortOf_e_29 : GoodIn wm_X6_roomOf_eLTS (wsV RX6 29 RX10 yX10_sortOf wm_X10_sortOf_e) := goodIn_w (List.forall_mem_append.mpr ⟨List.forall_mem_cons.mpr ⟨List.mem_cons_of_mem _ (List.mem_append_left _ (List.mem_append_left _ (List.mem_of_getElem? (i := 1) rfl))), List.forall_mem_cons.mpr ⟨List.mem_cons_of_mem _ (List.mem_append_left _ (List.mem_append_left _ (List.mem_of_getElem? (i := 2) rfl))), List.forall_mem_cons.mpr ⟨List.mem_cons_of_mem _ (List.mem_append_left _ (List.mem_append_left _ (List.mem_of_getElem? (i := 3) rfl))), List.forall_mem_cons.mpr ⟨List.mem_cons_of_mem _ (List.mem_append_left _ (List.mem_append_left _ (List.mem_of_getElem? (i := 4) rfl))), (fun _ h => absurd h List.not_mem_nil)⟩⟩⟩⟩, List.forall_mem_cons.mpr ⟨List.mem_cons_of_mem _ (List.mem_append_left _ (List.mem_append_left _ (List.mem_of_getElem? (i := 5) rfl))), List.forall_mem_append.mpr ⟨List.forall_mem_cons.mpr ⟨List.mem_cons_of_mem _ (List.mem_append_left _ (List.mem_append_left _ (List.mem_of_getElem? (i := 6) rfl))), List.forall_mem_cons.mpr ⟨List.mem_cons_of_mem _ (List.mem_append_left _ (List.mem_append_left _ (List.mem_of_getElem? (i := 7) rfl))), List.forall_mem_cons.mpr ⟨List.mem_cons_of_mem _ (List.mem_append_left _ (List.mem_append_left _ (List.mem_of_getElem? (i := 8) rfl))), (fun _ h => absurd h List.not_mem_nil)⟩⟩⟩, (fun _ h => List.mem_cons_of_mem _ (List.mem_append_right _ h))⟩⟩⟩) (by decide +kernel)
set_option maxRecDepth 20000 in
theorem gm_X6_roomOf_eLTS_X6_holderOf_TS_25 : GoodIn wm_X6_roomOf_eLTS (wsV RX6 25 RX6 yX6_holderOf wm_X6_holderOf_TS) := goodIn_w (List.forall_mem_append.mpr ⟨List.forall_mem_cons.mpr ⟨List.mem_cons_of_mem _ (List.mem_append_left _ (List.mem_append_left _ (List.mem_of_getElem? (i := 9) rfl))), List.forall_mem_cons.mpr ⟨List.mem_cons_of_mem _ (List.mem_append_left _ (List.mem_append_left _ (List.mem_of_getElem? (i := 10) rfl))), List.forall_mem_cons.mpr ⟨List.mem_cons_of_mem _ (List.mem_append_left _ (List.mem_append_left _ (List.mem_of_getElem? (i := 11) rfl))), List.forall_mem_cons.mpr ⟨List.mem_cons_of_mem _ (List.mem_append_left _ (List.mem_append_left _ (List.mem_of_getElem? (i := 12) rfl))), (fun _ h => absurd h List.not_mem_nil)⟩⟩⟩⟩, List.forall_mem_cons.mpr ⟨List.mem_cons_of_mem _ (List.mem_append_left _ (List.mem_append_left _ (List.mem_of_getElem? (i := 13) rfl))), List.forall_mem_append.mpr ⟨List.forall_mem_cons.mpr ⟨List.mem_cons_of_mem _ (List.mem_append_left _ (List.mem_append_left _ (List.mem_of_getElem? (i := 14) rfl))), (fun _ h => absurd h List.not_mem_nil)⟩, (fun _ h => List.mem_cons_of_mem _ (List.mem_append_left _ (List.mem_append_right _ h)))⟩⟩⟩) (by decide +kernel)
set_option maxHeartbeats 4000000 in
set_option maxRecDepth 100000 in
theorem x_X6_roomOf_eLTS (l : Launch) (D : va_G) (sz : Nat) (sk : Value) (a : Nat → Nat) (t : Nat → ClassId) (i : Nat → Int32) (q : Int64) (c : Nat → Nat → Int32) (d : Nat → Nat → Int64) (w : Int32) (hI : xInv i c) (hw : 0 ≤ w.toInt ∧ w.toInt ≤ 29) (hs_B : Acy (hF (c 150))) : Met l yX6_roomOf wm_X6_roomOf_eLTS ({ frames := 1, cells := 0, slots := 0, locals := 22 }) (va_Pc [.ref (a 149), .int w] (yA (a 186) D sz (xwQ1 sk a t i q c d) (xtQ1 t))) (va_Qi (fun (r : Int32) (_ : Unit) => ((r.toInt = -9 ∨ (0 ≤ r.toInt ∧ r.toInt ≤ 29)) ∧ (RmS (hF (c 150)) (RmX (c 106) (c 108) (i 111).toInt) w.toInt r.toInt))) oA (ro sz)) 0 0 (ro sz) := by
  refine Met.ofW (cc := cX6_roomOf) (maxL := 4) (ret := (some .int)) (by decide +kernel) rfl ?_
  intro p e s m args below meth cd s₁ B hml hv
  obtain ⟨rfl, ⟨hsz, hP, hK⟩, hN, hZ⟩ := hv
  have hx := B.exec
  have hb := B.bytes
  have hr := B.returns
  have hts := atoms_spec (ws := wm_X6_roomOf_eLTS) B.pre
  have hown : s.vm.findClass RX6 = some m.cls := findClass_of_methodNamed B.named
  have hlocks := B.notSynchronized
  subst hsz
  have hA : ∀ q : Nat, s.heap.size ≤ q → ro s.heap.size q := fun _ h => h
  have hS : va_S (ro s.heap.size) s.heap s.heap [] := va_S.rf
  have hl := lv_entry ([.ref (a 149), .int w]) (n := 4) (Nat.le_of_ble_eq_true rfl)
  rw [lg_entry_eq]
  generalize (lg_sl ([.ref (a 149), .int w]) ++ List.replicate (4 - (lg_sl ([.ref (a 149), .int w])).length) Slot.unset).toArray = ls at hl ⊢
  have hl : lv_has ls 4 [(0, .ref (a 149)), (1, .int w)] := hl
  have rb111_i : 0 ≤ (i 111).toInt ∧ (i 111).toInt ≤ 30 := hI.1 111
  obtain ⟨rk, hrk⟩ := hs_B
  have hk0 := hrk.1 w.toInt
  refine lv_iload_n hx hb dX6_roomOf_0 rfl (lv_at hl 1 rfl) ?_
  refine lv_istore_n (lv' := [(2, .int w), (0, .ref (a 149)), (1, .int w)]) hx hb dX6_roomOf_1 rfl hl (by decide +kernel) rfl (fun ls hl => ?_)
  refine lv_iconst (v := 0) hx hb dX6_roomOf_2 (by decide +kernel) ?_
  refine lv_istore_n (lv' := [(3, .int 0), (2, .int w), (0, .ref (a 149)), (1, .int w)]) hx hb dX6_roomOf_3 rfl hl (by decide +kernel) rfl (fun ls hl => ?_)
  have lp1 : ∀ (fu : Nat) (y1_3 : Int32) (y1_2 : Int32), (0 ≤ y1_3.toInt ∧ y1_3.toInt ≤ 31) → (y1_2.toInt = -9 ∨ (0 ≤ y1_2.toInt ∧ y1_2.toInt ≤ 29)) → (∀ t : Int, RmX (c 106) (c 108) (i 111).toInt t → (Ch (hF (c 150)) w.toInt t ↔ Ch (hF (c 150)) y1_2.toInt t)) → (y1_2.toInt = -9 ∨ (rk y1_2.toInt : Int) + y1_3.toInt ≤ 29) → (31 - y1_3.toInt).toNat < fu → ∀ (H : Heap) (locs : List Loc) (ls : Array Slot), va_P D vwCl (xwQ1 sk a t i q c d) H → va_S (ro s.heap.size) s.heap H locs → lv_has ls 4 [(3, .int y1_3), (2, .int y1_2), (0, .ref (a 149)), (1, .int w)] → W p l e (headSpec wm_X6_roomOf_eLTS ({ frames := 1, cells := 0, slots := 0, locals := 22 })).room s m ([.ref (a 149), .int w] : List Value).toArray below meth cd H locs 0 0 (MQ below (va_Qi (fun (r : Int32) (_ : Unit) => ((r.toInt = -9 ∨ (0 ≤ r.toInt ∧ r.toInt ≤ 29)) ∧ (RmS (hF (c 150)) (RmX (c 106) (c 108) (i 111).toInt) w.toInt r.toInt))) oA (ro s.heap.size)) ([.ref (a 149), .int w] : List Value).toArray s 0 0 (ro s.heap.size)) (F0 m 4 ls []) := by
    intro fu
    induction fu with
    | zero => intro y1_3 y1_2 hy1_3 hy1_2 hz1_0 hz1_1 hm; exact absurd hm (Nat.not_lt_zero _)
    | succ fu ih =>
      intro y1_3 y1_2 hy1_3 hy1_2 hz1_0 hz1_1 hm H locs ls hP hS hl
      have ih1 := ih
      refine lv_iload_n hx hb dX6_roomOf_4 rfl (lv_at hl 0 rfl) ?_
      refine lv_bipush (v := 30) hx hb dX6_roomOf_5 (by decide +kernel) ?_
      refine lv_icmp_gt (tgt := 41) hx hb dX6_roomOf_7 (by decide +kernel) (fun c2 => ?_) (fun c2 => ?_)
      · have f2 := (ti_lt (a := 30) (b := y1_3.toInt) (by decide +kernel) rfl).mp c2
        refine lv_bipush (v := (-9)) hx hb dX6_roomOf_41 (by decide +kernel) ?_
        exact ro_iret hx hb hr hlocks hS dX6_roomOf_43 ⟨(show ((-9) : Int32).toInt = -9 ∨ (0 ≤ ((-9) : Int32).toInt ∧ ((-9) : Int32).toInt ≤ 29) from by decide +kernel), (show RmS (hF (c 150)) (RmX (c 106) (c 108) (i 111).toInt) w.toInt ((-9) : Int32).toInt from Or.inr ⟨by decide, fun t9 h9 h8 => by have h7 := (hz1_0 t9 h9).mp h8; rw [show y1_2.toInt = -9 by omega] at h7; have h6 := Ch_nd hF_9 h7; have h5 := h9.1; omega⟩)⟩
      · have f2 := mt (ti_lt (a := 30) (b := y1_3.toInt) (by decide +kernel) rfl).mpr c2
        refine lv_iload_n hx hb dX6_roomOf_10 rfl (lv_at hl 1 rfl) ?_
        refine lv_bipush (v := (-9)) hx hb dX6_roomOf_11 (by decide +kernel) ?_
        refine lv_icmp_eq (tgt := 41) hx hb dX6_roomOf_13 (by decide +kernel) (fun c3 => ?_) (fun c3 => ?_)
        · have f3 := (ti_eq (a := y1_2.toInt) (b := (-9)) rfl (by decide +kernel)).mp c3
          refine lv_bipush (v := (-9)) hx hb dX6_roomOf_41 (by decide +kernel) ?_
          exact ro_iret hx hb hr hlocks hS dX6_roomOf_43 ⟨(show ((-9) : Int32).toInt = -9 ∨ (0 ≤ ((-9) : Int32).toInt ∧ ((-9) : Int32).toInt ≤ 29) from by decide +kernel), (show RmS (hF (c 150)) (RmX (c 106) (c 108) (i 111).toInt) w.toInt ((-9) : Int32).toInt from Or.inr ⟨by decide, fun t9 h9 h8 => by have h7 := (hz1_0 t9 h9).mp h8; rw [show y1_2.toInt = -9 by omega] at h7; have h6 := Ch_nd hF_9 h7; have h5 := h9.1; omega⟩)⟩
        · have f3 := mt (ti_eq (a := y1_2.toInt) (b := (-9)) rfl (by decide +kernel)).mpr c3
          refine lv_aload_n hx hb dX6_roomOf_16 rfl (lv_at hl 2 rfl) ?_
          refine xgQ1_TS_world hx hb hts (fun _ h => List.mem_cons_of_mem _ (List.mem_append_left _ (List.mem_append_right _ h))) hown hK hP (hts (.fieldLink RX6 15 "TalePlay$Scene" "world" "LTalePlay$World;") (List.mem_cons_of_mem _ (List.mem_append_left _ (List.mem_append_left _ (List.mem_of_getElem? (i := 0) rfl))))) dX6_roomOf_17 ?_
          refine lv_iload_n hx hb dX6_roomOf_20 rfl (lv_at hl 1 rfl) ?_
          refine ro_calli (va_runV (As := [.int y1_2]) (rest := []) ⟨hx, hb, hml, hown, hts⟩ (x_X10_sortOf_e l D H.size .null a t i q c d y1_2 hI ) (cwV 1 hts gm_X6_roomOf_eLTS_X10_sortOf_e_29 rfl rfl rfl (by decide +kernel) ⟨Nat.le_of_ble_eq_true rfl, Nat.le_of_ble_eq_true rfl⟩) (yA_V hN (xZ_k hZ hS hA) (xkQ1_W hK) (xuQ1_W (sk := sk) hP) (ci := 10) (q0 := 0) rfl rfl) rfl rfl hl.1 rfl (lv_room (Nat.le_of_ble_eq_true rfl)) dX6_roomOf_21 ⟨Nat.le_of_ble_eq_true rfl, Nat.le_of_ble_eq_true rfl⟩) hS hA hP (fun r4 u4 H locs hw4 hP hS => ?_)
          have hw4 : (((r4.toInt = -9 ∧ ¬ (0 ≤ y1_2.toInt ∧ y1_2.toInt < (i 111).toInt)) ∨ (0 ≤ r4.toInt ∧ r4.toInt ≤ 5 ∧ 0 ≤ y1_2.toInt ∧ y1_2.toInt < (i 111).toInt)) ∧ (SO (c 106) (c 108) (i 111).toInt y1_2.toInt r4.toInt)) := hw4
          obtain ⟨hw4, hr4_0⟩ := hw4
          have hr4_0 : SO (c 106) (c 108) (i 111).toInt y1_2.toInt r4.toInt := hr4_0
          refine lv_if_ne (tgt := 29) hx hb dX6_roomOf_24 (by decide +kernel) (fun c5 => ?_) (fun c5 => ?_)
          · have f5 := mt (ti_eq (a := r4.toInt) (b := 0) rfl (by decide +kernel)).mpr c5
            have hnr : ¬ RmX (c 106) (c 108) (i 111).toInt y1_2.toInt := fun h9 => by rcases hr4_0 with h8 | h8; (· have h7 := h8.2.2; have h6 := h9.2.2; omega); (· exact h8.1 ⟨h9.1, h9.2.1⟩)
            refine lv_aload_n hx hb dX6_roomOf_29 rfl (lv_at hl 2 rfl) ?_
            refine lv_iload_n hx hb dX6_roomOf_30 rfl (lv_at hl 1 rfl) ?_
            refine ro_calli (va_runV (As := [.int y1_2]) (rest := []) ⟨hx, hb, hml, hown, hts⟩ (x_X6_holderOf_TS l D H.size .null a t i q c d y1_2 hI (show 0 ≤ y1_2.toInt ∧ y1_2.toInt ≤ 29 from by omega)) (cwV 1 hts gm_X6_roomOf_eLTS_X6_holderOf_TS_25 rfl rfl rfl (by decide +kernel) ⟨Nat.le_of_ble_eq_true rfl, Nat.le_of_ble_eq_true rfl⟩) (yA_V hN (xZ_k hZ hS hA) (xkQ1_P1 hK) (xuQ1_P1 (sk := sk) hP) (ci := 6) (q0 := 0) rfl rfl) rfl rfl hl.1 rfl (lv_room (Nat.le_of_ble_eq_true rfl)) dX6_roomOf_31 ⟨Nat.le_of_ble_eq_true rfl, Nat.le_of_ble_eq_true rfl⟩) hS hA hP (fun r6 u6 H locs hw6 hP hS => ?_)
            have hw6 : ((r6.toInt = -9 ∧ (c 150 y1_2.toNatClampNeg).toInt % 256 = 255) ∨ (0 ≤ r6.toInt ∧ r6.toInt ≤ 29 ∧ ¬ (c 150 y1_2.toNatClampNeg).toInt % 256 = 255 ∧ r6.toInt = (c 150 y1_2.toNatClampNeg).toInt / 8 % 32)) := hw6
            have hh1 : hF (c 150) y1_2.toInt = r6.toInt := hF_at (by omega) hw6
            have hk1 : r6.toInt = -9 ∨ rk r6.toInt < rk y1_2.toInt := by by_cases q9 : r6.toInt = -9; (· exact Or.inl q9); (· have h8 := hrk.2 y1_2.toInt (by omega) (by omega) (by rw [hh1]; exact q9); rw [hh1] at h8; exact Or.inr h8)
            refine lv_istore_n (lv' := [(2, .int r6), (3, .int y1_3), (0, .ref (a 149)), (1, .int w)]) hx hb dX6_roomOf_34 rfl hl (by decide +kernel) rfl (fun ls hl => ?_)
            obtain ⟨x7, ex7⟩ : ∃ y : Int32, y = y1_3 + 1 := ⟨_, rfl⟩
            have tx7 := ti_add (a := y1_3.toInt) (b := 1) ex7 rfl (by decide +kernel) (by omega) (by omega)
            refine lv_iinc (v := x7) (lv' := [(3, .int x7), (2, .int r6), (0, .ref (a 149)), (1, .int w)]) hx hb dX6_roomOf_35 hl (k := 1) rfl (by rw [ex7]; rfl) (by decide +kernel) rfl (fun ls hl => ?_)
            refine lv_goto (tgt := 4) hx hb dX6_roomOf_38 (by decide +kernel) ?_
            exact ih1 x7 r6 (show 0 ≤ x7.toInt ∧ x7.toInt ≤ 31 from by have h50 : x7.toInt = (y1_3.toInt + 1) := tx7; omega) (show r6.toInt = -9 ∨ (0 ≤ r6.toInt ∧ r6.toInt ≤ 29) from by have h50 : x7.toInt = (y1_3.toInt + 1) := tx7; omega) (show ∀ t : Int, RmX (c 106) (c 108) (i 111).toInt t → (Ch (hF (c 150)) w.toInt t ↔ Ch (hF (c 150)) r6.toInt t) from fun t9 h9 => (hz1_0 t9 h9).trans (by rw [Ch_nx (f := hF (c 150)) (x := y1_2.toInt) (fun e9 => hnr (by rw [e9]; exact h9)), hh1])) (show r6.toInt = -9 ∨ (rk r6.toInt : Int) + x7.toInt ≤ 29 from by have h50 : x7.toInt = (y1_3.toInt + 1) := tx7; omega) (by have h50 : x7.toInt = (y1_3.toInt + 1) := tx7; omega) _ _ _ hP hS (lv_sub hl [0, 1, 2, 3] rfl)
          · have f5 := (ti_eq (a := r4.toInt) (b := 0) rfl (by decide +kernel)).mp c5
            refine lv_iload_n hx hb dX6_roomOf_27 rfl (lv_at hl 1 rfl) ?_
            exact ro_iret hx hb hr hlocks hS dX6_roomOf_28 ⟨(show y1_2.toInt = -9 ∨ (0 ≤ y1_2.toInt ∧ y1_2.toInt ≤ 29) from by omega), (show RmS (hF (c 150)) (RmX (c 106) (c 108) (i 111).toInt) w.toInt y1_2.toInt from Or.inl ⟨by omega, (hz1_0 _ (show RmX (c 106) (c 108) (i 111).toInt y1_2.toInt from by rcases hr4_0 with h8 | h8; (· exact ⟨h8.1, h8.2.1, by have h7 := h8.2.2; omega⟩); (· exfalso; have h7 := h8.2; omega))).mpr Ch_rf, (show RmX (c 106) (c 108) (i 111).toInt y1_2.toInt from by rcases hr4_0 with h8 | h8; (· exact ⟨h8.1, h8.2.1, by have h7 := h8.2.2; omega⟩); (· exfalso; have h7 := h8.2; omega))⟩)⟩
  exact lp1 _ (0 : Int32) w (show 0 ≤ (0 : Int32).toInt ∧ (0 : Int32).toInt ≤ 31 from by decide +kernel) (show w.toInt = -9 ∨ (0 ≤ w.toInt ∧ w.toInt ≤ 29) from by have h50 : (0 : Int32).toInt = 0 := (by decide +kernel); omega) (show ∀ t : Int, RmX (c 106) (c 108) (i 111).toInt t → (Ch (hF (c 150)) w.toInt t ↔ Ch (hF (c 150)) w.toInt t) from fun _ _ => Iff.rfl) (show w.toInt = -9 ∨ (rk w.toInt : Int) + (0 : Int32).toInt ≤ 29 from by have h50 : (0 : Int32).toInt = 0 := (by decide +kernel); omega) (Nat.lt_succ_self _) _ _ _ hP hS (lv_sub hl [0, 1, 2, 3] rfl)

