def wm_X1_isDoorClashing_e : List Cond := .code yX1_isDoorClashing cX1_isDoorClashing 5 (some .boolean) :: (([.fieldLink RX1 92 "TalePlay$Book" "total" "I", .fieldLink RX1 118 "TalePlay$Book" "clashes" "I", .methodLink RX1 146 yX1_clearClash, .instanceMethod yX1_clearClash, .selects RX1 yX1_clearClash yX1_clearClash, .initialized RX1, .code yX1_clearClash cX1_clearClash 1 none, .fieldLink RX1 24 "TalePlay$Book" "said" "[Z", .fieldLink RX1 9 "TalePlay$Book" "forms" "[I", .fieldLink RX1 18 "TalePlay$Book" "bs" "[I", .methodLink RX1 121 yX1_addClash, .instanceMethod yX1_addClash, .selects RX1 yX1_addClash yX1_addClash, .code yX1_addClash cX1_addClash 2 (some .boolean), .fieldLink RX1 40 "TalePlay$Book" "clashRow" "[I", .fieldLink RX1 31 "TalePlay$Book" "exitBy" "[I"] : List Cond) ++ wsX10)
set_option maxRecDepth 20000 in
theorem gm_X1_isDoorClashing_e_X1_clearClash_146 : GoodIn wm_X1_isDoorClashing_e (wsV RX1 146 RX1 yX1_clearClash wm_X1_clearClash) := goodIn_w (List.forall_mem_append.mpr ⟨List.forall_mem_cons.mpr ⟨List.mem_cons_of_mem _ (List.mem_append_left _ (List.mem_of_getElem? (i := 2) rfl)), List.forall_mem_cons.mpr ⟨List.mem_cons_of_mem _ (List.mem_append_left _ (List.mem_of_getElem? (i := 3) rfl)), List.forall_mem_cons.mpr ⟨List.mem_cons_of_mem _ (List.mem_append_left _ (List.mem_of_getElem? (i := 4) rfl)), List.forall_mem_cons.mpr ⟨List.mem_cons_of_mem _ (List.mem_append_left _ (List.mem_of_getElem? (i := 5) rfl)), (fun _ h => absurd h List.not_mem_nil)⟩⟩⟩⟩, List.forall_mem_cons.mpr ⟨List.mem_cons_of_mem _ (List.mem_append_left _ (List.mem_of_getElem? (i := 6) rfl)), List.forall_mem_append.mpr ⟨List.forall_mem_cons.mpr ⟨List.mem_cons_of_mem _ (List.mem_append_left _ (List.mem_of_getElem? (i := 1) rfl)), (fun _ h => absurd h List.not_mem_nil)⟩, (fun _ h => List.mem_cons_of_mem _ (List.mem_append_right _ h))⟩⟩⟩) (by decide +kernel)
set_option maxRecDepth 20000 in
theorem gm_X1_isDoorClashing_e_X1_addClash_e_121 : GoodIn wm_X1_isDoorClashing_e (wsV RX1 121 RX1 yX1_addClash wm_X1_addClash_e) := goodIn_w (List.forall_mem_append.mpr ⟨List.forall_mem_cons.mpr ⟨List.mem_cons_of_mem _ (List.mem_append_left _ (List.mem_of_getElem? (i := 10) rfl)), List.forall_mem_cons.mpr ⟨List.mem_cons_of_mem _ (List.mem_append_left _ (List.mem_of_getElem? (i := 11) rfl)), List.forall_mem_cons.mpr ⟨List.mem_cons_of_mem _ (List.mem_append_left _ (List.mem_of_getElem? (i := 12) rfl)), List.forall_mem_cons.mpr ⟨List.mem_cons_of_mem _ (List.mem_append_left _ (List.mem_of_getElem? (i := 5) rfl)), (fun _ h => absurd h List.not_mem_nil)⟩⟩⟩⟩, List.forall_mem_cons.mpr ⟨List.mem_cons_of_mem _ (List.mem_append_left _ (List.mem_of_getElem? (i := 13) rfl)), List.forall_mem_append.mpr ⟨List.forall_mem_cons.mpr ⟨List.mem_cons_of_mem _ (List.mem_append_left _ (List.mem_of_getElem? (i := 1) rfl)), List.forall_mem_cons.mpr ⟨List.mem_cons_of_mem _ (List.mem_append_left _ (List.mem_of_getElem? (i := 14) rfl)), (fun _ h => absurd h List.not_mem_nil)⟩⟩, (fun _ h => List.mem_cons_of_mem _ (List.mem_append_right _ h))⟩⟩⟩) (by decide +kernel)
set_option maxHeartbeats 4000000 in
set_option maxRecDepth 100000 in
theorem x_X1_isDoorClashing_e (l : Launch) (D : va_G) (sz : Nat) (sk : Value) (a : Nat → Nat) (t : Nat → ClassId) (i : Nat → Int32) (q : Int64) (c : Nat → Nat → Int32) (d : Nat → Nat → Int64) (w1 : Int32) (w2 : Int32) (hI : xInv i c) (hw1 : 0 ≤ w1.toInt ∧ w1.toInt ≤ 29) (hw2 : 0 ≤ w2.toInt ∧ w2.toInt ≤ 29) (hc0 : (i 123).toInt = 0) : Met l yX1_isDoorClashing wm_X1_isDoorClashing_e ({ frames := 1, cells := 0, slots := 0, locals := 21 }) (va_Pc [.ref (a 112), .int w1, .int w2] (yB (a 186) D sz (xwT sk a t i q c d) (xtT t))) (va_Qi (fun (r : Int32) (u : MS) => ((0 ≤ r.toInt ∧ r.toInt ≤ 1) ∧ (Sm r (DoX (c 119) (c 113) (c 115) (c 117) (i 124).toInt w1.toInt w2.toInt))) ∧ xInv u.1 u.2.2.1 ∧ (∀ k, k ∉ ([123] : List Nat) → u.1 k = i k) ∧ (∀ k, k ∉ ([122] : List Nat) → u.2.2.1 k = c k)) (oC D (va_A (xwT sk a t i q c d) sz) (fun u : MS => xwT sk a t u.1 u.2.1 u.2.2.1 u.2.2.2) (fun _ => [])) (va_A (xwT sk a t i q c d) sz)) 0 0 (va_A (xwT sk a t i q c d) sz) := by
  refine Met.ofW (cc := cX1_isDoorClashing) (maxL := 5) (ret := (some .boolean)) (by decide +kernel) rfl ?_
  intro p e s m args below meth cd s₁ B hml hv
  obtain ⟨rfl, ⟨hsz, hP, hK, hD0⟩, hN, hZ, hBW⟩ := hv
  have hx := B.exec
  have hb := B.bytes
  have hr := B.returns
  have hts := atoms_spec (ws := wm_X1_isDoorClashing_e) B.pre
  have hown : s.vm.findClass RX1 = some m.cls := findClass_of_methodNamed B.named
  have hlocks := B.notSynchronized
  subst hsz
  have hD := hD0.self (sz := s.heap.size)
  have hZ := xZ_A hZ hP hBW
  generalize hAe : va_A (xwT sk a t i q c d) s.heap.size = A at hD hZ ⊢
  have hA : ∀ q : Nat, s.heap.size ≤ q → A q := fun q h => by rw [← hAe]; exact Or.inr h
  have hS : va_S A s.heap s.heap [] := va_S.rf
  have hfi : ∀ k, k ∉ ([] : List Nat) → i k = i k := fun _ _ => rfl
  have hfc : ∀ k, k ∉ ([] : List Nat) → c k = c k := fun _ _ => rfl
  have hl := lv_entry ([.ref (a 112), .int w1, .int w2]) (n := 5) (Nat.le_of_ble_eq_true rfl)
  rw [lg_entry_eq]
  generalize (lg_sl ([.ref (a 112), .int w1, .int w2]) ++ List.replicate (5 - (lg_sl ([.ref (a 112), .int w1, .int w2])).length) Slot.unset).toArray = ls at hl ⊢
  have hl : lv_has ls 5 [(0, .ref (a 112)), (1, .int w1), (2, .int w2)] := hl
  have rb123_i : 0 ≤ (i 123).toInt ∧ (i 123).toInt ≤ 30 := hI.1 123
  have rb124_i : 0 ≤ (i 124).toInt ∧ (i 124).toInt ≤ 200 := hI.1 124
  refine lv_iconst (v := 0) hx hb dX1_isDoorClashing_0 (by decide +kernel) ?_
  refine lv_istore_n (lv' := [(3, .int 0), (0, .ref (a 112)), (1, .int w1), (2, .int w2)]) hx hb dX1_isDoorClashing_1 rfl hl (by decide +kernel) rfl (fun ls hl => ?_)
  have lp1 : ∀ (fu : Nat) (y1_3 : Int32), (0 ≤ y1_3.toInt ∧ y1_3.toInt ≤ 10) → (∀ s : Nat, (s : Int) < y1_3.toInt → ¬ DP (c 119) (c 115) w1.toInt w2.toInt s) → (((i 123) : Int32).toInt = 0) → (10 - y1_3.toInt).toNat < fu → ∀ (H : Heap) (locs : List Loc) (ls : Array Slot), va_P D vwCl (xwT sk a t i q c d) H → va_D A (xwT sk a t i q c d) → va_S A s.heap H locs → lv_has ls 5 [(3, .int y1_3), (0, .ref (a 112)), (1, .int w1), (2, .int w2)] → W p l e (headSpec wm_X1_isDoorClashing_e ({ frames := 1, cells := 0, slots := 0, locals := 21 })).room s m ([.ref (a 112), .int w1, .int w2] : List Value).toArray below meth cd H locs 0 0 (MQ below (va_Qi (fun (r : Int32) (u : MS) => ((0 ≤ r.toInt ∧ r.toInt ≤ 1) ∧ (Sm r (DoX (c 119) (c 113) (c 115) (c 117) (i 124).toInt w1.toInt w2.toInt))) ∧ xInv u.1 u.2.2.1 ∧ (∀ k, k ∉ ([123] : List Nat) → u.1 k = i k) ∧ (∀ k, k ∉ ([122] : List Nat) → u.2.2.1 k = c k)) (oC D A (fun u : MS => xwT sk a t u.1 u.2.1 u.2.2.1 u.2.2.2) (fun _ => [])) A) ([.ref (a 112), .int w1, .int w2] : List Value).toArray s 0 0 A) (F0 m 2 ls []) := by
    intro fu
    induction fu with
    | zero => intro y1_3 hy1_3 hz1_0 hz1_1 hm; exact absurd hm (Nat.not_lt_zero _)
    | succ fu ih =>
      intro y1_3 hy1_3 hz1_0 hz1_1 hm H locs ls hP hD hS hl
      have ih1 := ih
      refine lv_iload_n hx hb dX1_isDoorClashing_2 rfl (lv_at hl 0 rfl) ?_
      refine lv_bipush (v := 10) hx hb dX1_isDoorClashing_3 (by decide +kernel) ?_
      refine lv_icmp_ge (tgt := 52) hx hb dX1_isDoorClashing_5 (by decide +kernel) (fun c2 => ?_) (fun c2 => ?_)
      · have f2 := (ti_le (a := 10) (b := y1_3.toInt) (by decide +kernel) rfl).mp c2
        refine lv_iconst (v := 0) hx hb dX1_isDoorClashing_52 (by decide +kernel) ?_
        refine lv_istore_n (lv' := [(3, .int 0), (0, .ref (a 112)), (1, .int w1), (2, .int w2)]) hx hb dX1_isDoorClashing_53 rfl hl (by decide +kernel) rfl (fun ls hl => ?_)
        have lp3 : ∀ (fu : Nat) (i3 : Nat → Int32) (q3 : Int64) (c3 : Nat → Nat → Int32) (d3 : Nat → Nat → Int64) (y3_3 : Int32), xInv i3 c3 → (∀ k, k ∉ ([123] : List Nat) → i3 k = i k) → (∀ k, k ∉ ([122] : List Nat) → c3 k = c k) → (0 ≤ y3_3.toInt ∧ y3_3.toInt ≤ 200 ∧ y3_3.toInt ≤ (i 124).toInt) → (CN (EB (c 113) (c 115) (c 117) w2.toInt) y3_3.toInt ((i3 123) : Int32).toInt) → (200 - y3_3.toInt).toNat < fu → ∀ (H : Heap) (locs : List Loc) (ls : Array Slot), va_P D vwCl (xwT sk a t i3 q3 c3 d3) H → va_D A (xwT sk a t i3 q3 c3 d3) → va_S A s.heap H locs → lv_has ls 5 [(3, .int y3_3), (0, .ref (a 112)), (1, .int w1), (2, .int w2)] → W p l e (headSpec wm_X1_isDoorClashing_e ({ frames := 1, cells := 0, slots := 0, locals := 21 })).room s m ([.ref (a 112), .int w1, .int w2] : List Value).toArray below meth cd H locs 0 0 (MQ below (va_Qi (fun (r : Int32) (u : MS) => ((0 ≤ r.toInt ∧ r.toInt ≤ 1) ∧ (Sm r (DoX (c 119) (c 113) (c 115) (c 117) (i 124).toInt w1.toInt w2.toInt))) ∧ xInv u.1 u.2.2.1 ∧ (∀ k, k ∉ ([123] : List Nat) → u.1 k = i k) ∧ (∀ k, k ∉ ([122] : List Nat) → u.2.2.1 k = c k)) (oC D A (fun u : MS => xwT sk a t u.1 u.2.1 u.2.2.1 u.2.2.2) (fun _ => [])) A) ([.ref (a 112), .int w1, .int w2] : List Value).toArray s 0 0 A) (F0 m 54 ls []) := by
          intro fu
          induction fu with
          | zero => intro i3 q3 c3 d3 y3_3 hI hfi hfc hy3_3 hz3_0 hm; exact absurd hm (Nat.not_lt_zero _)
          | succ fu ih =>
            intro i3 q3 c3 d3 y3_3 hI hfi hfc hy3_3 hz3_0 hm H locs ls hP hD hS hl
            have ih3 := ih
            refine lv_iload_n hx hb dX1_isDoorClashing_54 rfl (lv_at hl 0 rfl) ?_
            refine lv_aload_n hx hb dX1_isDoorClashing_55 rfl (lv_at hl 1 rfl) ?_
            refine xgT_B_total (v := (i3 124)) rfl hx hb hts (fun _ h => List.mem_cons_of_mem _ (List.mem_append_right _ h)) hown hK hP (hts (.fieldLink RX1 92 "TalePlay$Book" "total" "I") (List.mem_cons_of_mem _ (List.mem_append_left _ (List.mem_of_getElem? (i := 0) rfl)))) dX1_isDoorClashing_56 ?_
            have rb124_i3 : 0 ≤ (i3 124).toInt ∧ (i3 124).toInt ≤ 200 := hI.1 124
            have re124_i3 : (i3 124).toInt = (i 124).toInt := congrArg Int32.toInt (hfi 124 (by decide +kernel))
            refine lv_icmp_ge (tgt := 103) hx hb dX1_isDoorClashing_59 (by decide +kernel) (fun c4 => ?_) (fun c4 => ?_)
            · have f4 := (ti_le (a := (i3 124).toInt) (b := y3_3.toInt) rfl rfl).mp c4
              refine lv_aload_n hx hb dX1_isDoorClashing_103 rfl (lv_at hl 1 rfl) ?_
              refine xgT_B_clashes (v := (i3 123)) rfl hx hb hts (fun _ h => List.mem_cons_of_mem _ (List.mem_append_right _ h)) hown hK hP (hts (.fieldLink RX1 118 "TalePlay$Book" "clashes" "I") (List.mem_cons_of_mem _ (List.mem_append_left _ (List.mem_of_getElem? (i := 1) rfl)))) dX1_isDoorClashing_104 ?_
              have rb123_i3 : 0 ≤ (i3 123).toInt ∧ (i3 123).toInt ≤ 30 := hI.1 123
              refine lv_iconst (v := 2) hx hb dX1_isDoorClashing_107 (by decide +kernel) ?_
              refine lv_icmp_lt (tgt := 113) hx hb dX1_isDoorClashing_108 (by decide +kernel) (fun c5 => ?_) (fun c5 => ?_)
              · have f5 := (ti_lt (a := (i3 123).toInt) (b := 2) rfl (by decide +kernel)).mp c5
                refine lv_aload_n hx hb dX1_isDoorClashing_113 rfl (lv_at hl 1 rfl) ?_
                refine al_callv (va_runV (As := []) (rest := []) ⟨hx, hb, hml, hown, hts⟩ (x_X1_clearClash l D H.size sk a t i3 q3 c3 d3  hI ) (cwV 0 hts gm_X1_isDoorClashing_e_X1_clearClash_146 rfl rfl rfl (by decide +kernel) ⟨Nat.le_of_ble_eq_true rfl, Nat.le_of_ble_eq_true rfl⟩) (yB_V hN (xZ_k hZ hS hA) (xZ_n hZ hD) hK hP hD (ci := 1) (q0 := 8) rfl rfl) rfl rfl hl.1 rfl (lv_room (Nat.le_of_ble_eq_true rfl)) dX1_isDoorClashing_114 ⟨Nat.le_of_ble_eq_true rfl, Nat.le_of_ble_eq_true rfl⟩) hS hA hP hD (fun u6 H locs hw6 hP hD hS => ?_)
                obtain ⟨i6, q6, c6, d6⟩ := u6
                have hw6 : True ∧ xInv i6 c6 ∧ (∀ k, k ∉ ([123] : List Nat) → i6 k = i3 k) ∧ (∀ k, k ∉ ([] : List Nat) → c6 k = c3 k) := hw6
                obtain ⟨hw6, hI, hei6, hec6⟩ := hw6
                have hfi : ∀ k, k ∉ ([123] : List Nat) → i6 k = i k := fr_z hfi hei6 (by decide +kernel) (by decide +kernel)
                have hfc : ∀ k, k ∉ ([122] : List Nat) → c6 k = c k := fr_z hfc hec6 (by decide +kernel) (by decide +kernel)
                refine lv_iconst (v := 0) hx hb dX1_isDoorClashing_117 (by decide +kernel) ?_
                exact rw_zret (i6, q6, c6, d6) hx hb hr hlocks hS (hK.sub (tys' := []) [] rfl) hP hD rfl dX1_isDoorClashing_118 ⟨⟨(show 0 ≤ (0 : Int32).toInt ∧ (0 : Int32).toInt ≤ 1 from by have h9 : (0 : Int32).toInt = 0 := (by decide +kernel); omega), (show Sm (0 : Int32) (DoX (c 119) (c 113) (c 115) (c 117) (i 124).toInt w1.toInt w2.toInt) from sm_0 (fun h9 => by rcases h9 with ⟨d9, h8, h7⟩ | h9; (· exact hz1_0 d9 (by omega) h7); (· rw [show (i 124).toInt = y3_3.toInt by omega] at h9; exact CN_1 hz3_0 (by omega) h9)))⟩, hI, fr_w hfi (by decide +kernel), fr_w hfc (by decide +kernel)⟩
              · have f5 := mt (ti_lt (a := (i3 123).toInt) (b := 2) rfl (by decide +kernel)).mpr c5
                refine lv_iconst (v := 1) hx hb dX1_isDoorClashing_111 (by decide +kernel) ?_
                exact rw_zret (i3, q3, c3, d3) hx hb hr hlocks hS (hK.sub (tys' := []) [] rfl) hP hD rfl dX1_isDoorClashing_112 ⟨⟨(show 0 ≤ (1 : Int32).toInt ∧ (1 : Int32).toInt ≤ 1 from by have h9 : (1 : Int32).toInt = 1 := (by decide +kernel); omega), (show Sm (1 : Int32) (DoX (c 119) (c 113) (c 115) (c 117) (i 124).toInt w1.toInt w2.toInt) from sm_1 (Or.inr (by rw [show (i 124).toInt = y3_3.toInt by omega]; exact CN_2 hz3_0 (by omega))))⟩, hI, fr_w hfi (by decide +kernel), fr_w hfc (by decide +kernel)⟩
            · have f4 := mt (ti_le (a := (i3 124).toInt) (b := y3_3.toInt) rfl rfl).mpr c4
              refine lv_aload_n hx hb dX1_isDoorClashing_62 rfl (lv_at hl 1 rfl) ?_
              refine xgT_B_said hx hb hts (fun _ h => List.mem_cons_of_mem _ (List.mem_append_right _ h)) hown hK hP (hts (.fieldLink RX1 24 "TalePlay$Book" "said" "[Z") (List.mem_cons_of_mem _ (List.mem_append_left _ (List.mem_of_getElem? (i := 7) rfl)))) dX1_isDoorClashing_63 ?_
              refine lv_iload_n hx hb dX1_isDoorClashing_66 rfl (lv_at hl 0 rfl) ?_
              refine xlT_117 hx hb hK hP (vp_in_iff.mpr (by have h9 : y3_3.toInt = y3_3.toInt := rfl; omega)) dX1_isDoorClashing_67 (fun x7 ex7 => ?_)
              have rx7 : 0 ≤ x7.toInt ∧ x7.toInt ≤ 1 := by rw [ex7]; exact hI.2 117 _
              have gx7 : (c 117 (y3_3 : Int32).toNatClampNeg).toInt = x7.toInt := by rw [show x7 = c3 117 (y3_3 : Int32).toNatClampNeg from ex7, show c3 117 = c 117 from hfc 117 (by decide +kernel)]
              refine lv_if_eq (tgt := 97) hx hb dX1_isDoorClashing_68 (by decide +kernel) (fun c8 => ?_) (fun c8 => ?_)
              · have f8 := (ti_eq (a := x7.toInt) (b := 0) rfl (by decide +kernel)).mp c8
                obtain ⟨x9, ex9⟩ : ∃ y : Int32, y = y3_3 + 1 := ⟨_, rfl⟩
                have tx9 := ti_add (a := y3_3.toInt) (b := 1) ex9 rfl (by decide +kernel) (by omega) (by omega)
                refine lv_iinc (v := x9) (lv' := [(3, .int x9), (0, .ref (a 112)), (1, .int w1), (2, .int w2)]) hx hb dX1_isDoorClashing_97 hl (k := 0) rfl (by rw [ex9]; rfl) (by decide +kernel) rfl (fun ls hl => ?_)
                refine lv_goto (tgt := 54) hx hb dX1_isDoorClashing_100 (by decide +kernel) ?_
                exact ih3 i3 q3 c3 d3 x9 hI (fr_w hfi (by decide +kernel)) (fr_w hfc (by decide +kernel)) (show 0 ≤ x9.toInt ∧ x9.toInt ≤ 200 ∧ x9.toInt ≤ (i 124).toInt from by have h50 : x9.toInt = (y3_3.toInt + 1) := tx9; omega) (show CN (EB (c 113) (c 115) (c 117) w2.toInt) x9.toInt ((i3 123) : Int32).toInt from CN_n hz3_0 (by omega) (by unfold EB; omega) tx9) (by have h50 : x9.toInt = (y3_3.toInt + 1) := tx9; omega) _ _ _ hP hD hS (lv_sub hl [0, 1, 2, 3] rfl)
              · have f8 := mt (ti_eq (a := x7.toInt) (b := 0) rfl (by decide +kernel)).mpr c8
                refine lv_aload_n hx hb dX1_isDoorClashing_71 rfl (lv_at hl 1 rfl) ?_
                refine xgT_B_forms hx hb hts (fun _ h => List.mem_cons_of_mem _ (List.mem_append_right _ h)) hown hK hP (hts (.fieldLink RX1 9 "TalePlay$Book" "forms" "[I") (List.mem_cons_of_mem _ (List.mem_append_left _ (List.mem_of_getElem? (i := 8) rfl)))) dX1_isDoorClashing_72 ?_
                refine lv_iload_n hx hb dX1_isDoorClashing_75 rfl (lv_at hl 0 rfl) ?_
                refine xlT_113 hx hb hK hP (vp_in_iff.mpr (by have h9 : y3_3.toInt = y3_3.toInt := rfl; omega)) dX1_isDoorClashing_76 (fun x10 ex10 => ?_)
                have rx10 : 0 ≤ x10.toInt ∧ x10.toInt ≤ 7 := by rw [ex10]; exact hI.2 113 _
                have gx10 : (c 113 (y3_3 : Int32).toNatClampNeg).toInt = x10.toInt := by rw [show x10 = c3 113 (y3_3 : Int32).toNatClampNeg from ex10, show c3 113 = c 113 from hfc 113 (by decide +kernel)]
                refine lv_iconst (v := 5) hx hb dX1_isDoorClashing_77 (by decide +kernel) ?_
                refine lv_icmp_ne (tgt := 97) hx hb dX1_isDoorClashing_78 (by decide +kernel) (fun c11 => ?_) (fun c11 => ?_)
                · have f11 := mt (ti_eq (a := x10.toInt) (b := 5) rfl (by decide +kernel)).mpr c11
                  obtain ⟨x12, ex12⟩ : ∃ y : Int32, y = y3_3 + 1 := ⟨_, rfl⟩
                  have tx12 := ti_add (a := y3_3.toInt) (b := 1) ex12 rfl (by decide +kernel) (by omega) (by omega)
                  refine lv_iinc (v := x12) (lv' := [(3, .int x12), (0, .ref (a 112)), (1, .int w1), (2, .int w2)]) hx hb dX1_isDoorClashing_97 hl (k := 0) rfl (by rw [ex12]; rfl) (by decide +kernel) rfl (fun ls hl => ?_)
                  refine lv_goto (tgt := 54) hx hb dX1_isDoorClashing_100 (by decide +kernel) ?_
                  exact ih3 i3 q3 c3 d3 x12 hI (fr_w hfi (by decide +kernel)) (fr_w hfc (by decide +kernel)) (show 0 ≤ x12.toInt ∧ x12.toInt ≤ 200 ∧ x12.toInt ≤ (i 124).toInt from by have h50 : x12.toInt = (y3_3.toInt + 1) := tx12; omega) (show CN (EB (c 113) (c 115) (c 117) w2.toInt) x12.toInt ((i3 123) : Int32).toInt from CN_n hz3_0 (by omega) (by unfold EB; omega) tx12) (by have h50 : x12.toInt = (y3_3.toInt + 1) := tx12; omega) _ _ _ hP hD hS (lv_sub hl [0, 1, 2, 3] rfl)
                · have f11 := (ti_eq (a := x10.toInt) (b := 5) rfl (by decide +kernel)).mp c11
                  refine lv_aload_n hx hb dX1_isDoorClashing_81 rfl (lv_at hl 1 rfl) ?_
                  refine xgT_B_bs hx hb hts (fun _ h => List.mem_cons_of_mem _ (List.mem_append_right _ h)) hown hK hP (hts (.fieldLink RX1 18 "TalePlay$Book" "bs" "[I") (List.mem_cons_of_mem _ (List.mem_append_left _ (List.mem_of_getElem? (i := 9) rfl)))) dX1_isDoorClashing_82 ?_
                  refine lv_iload_n hx hb dX1_isDoorClashing_85 rfl (lv_at hl 0 rfl) ?_
                  refine xlT_115 hx hb hK hP (vp_in_iff.mpr (by have h9 : y3_3.toInt = y3_3.toInt := rfl; omega)) dX1_isDoorClashing_86 (fun x13 ex13 => ?_)
                  have rx13 : 0 ≤ x13.toInt ∧ x13.toInt ≤ 29 := by rw [ex13]; exact hI.2 115 _
                  have gx13 : (c 115 (y3_3 : Int32).toNatClampNeg).toInt = x13.toInt := by rw [show x13 = c3 115 (y3_3 : Int32).toNatClampNeg from ex13, show c3 115 = c 115 from hfc 115 (by decide +kernel)]
                  refine lv_iload_n hx hb dX1_isDoorClashing_87 rfl (lv_at hl 3 rfl) ?_
                  refine lv_icmp_ne (tgt := 97) hx hb dX1_isDoorClashing_88 (by decide +kernel) (fun c14 => ?_) (fun c14 => ?_)
                  · have f14 := mt (ti_eq (a := x13.toInt) (b := w2.toInt) rfl rfl).mpr c14
                    obtain ⟨x15, ex15⟩ : ∃ y : Int32, y = y3_3 + 1 := ⟨_, rfl⟩
                    have tx15 := ti_add (a := y3_3.toInt) (b := 1) ex15 rfl (by decide +kernel) (by omega) (by omega)
                    refine lv_iinc (v := x15) (lv' := [(3, .int x15), (0, .ref (a 112)), (1, .int w1), (2, .int w2)]) hx hb dX1_isDoorClashing_97 hl (k := 0) rfl (by rw [ex15]; rfl) (by decide +kernel) rfl (fun ls hl => ?_)
                    refine lv_goto (tgt := 54) hx hb dX1_isDoorClashing_100 (by decide +kernel) ?_
                    exact ih3 i3 q3 c3 d3 x15 hI (fr_w hfi (by decide +kernel)) (fr_w hfc (by decide +kernel)) (show 0 ≤ x15.toInt ∧ x15.toInt ≤ 200 ∧ x15.toInt ≤ (i 124).toInt from by have h50 : x15.toInt = (y3_3.toInt + 1) := tx15; omega) (show CN (EB (c 113) (c 115) (c 117) w2.toInt) x15.toInt ((i3 123) : Int32).toInt from CN_n hz3_0 (by omega) (by unfold EB; omega) tx15) (by have h50 : x15.toInt = (y3_3.toInt + 1) := tx15; omega) _ _ _ hP hD hS (lv_sub hl [0, 1, 2, 3] rfl)
                  · have f14 := (ti_eq (a := x13.toInt) (b := w2.toInt) rfl rfl).mp c14
                    refine lv_aload_n hx hb dX1_isDoorClashing_91 rfl (lv_at hl 1 rfl) ?_
                    refine lv_iload_n hx hb dX1_isDoorClashing_92 rfl (lv_at hl 0 rfl) ?_
                    have rb123_i3 : 0 ≤ (i3 123).toInt ∧ (i3 123).toInt ≤ 30 := hI.1 123
                    refine al_calli (va_runV (As := [.int y3_3]) (rest := []) ⟨hx, hb, hml, hown, hts⟩ (x_X1_addClash_e l D H.size sk a t i3 q3 c3 d3 y3_3 hI (show y3_3.toInt = -9 ∨ (0 ≤ y3_3.toInt ∧ y3_3.toInt ≤ 199) from by omega)) (cwV 1 hts gm_X1_isDoorClashing_e_X1_addClash_e_121 rfl rfl rfl (by decide +kernel) ⟨Nat.le_of_ble_eq_true rfl, Nat.le_of_ble_eq_true rfl⟩) (yB_V hN (xZ_k hZ hS hA) (xZ_n hZ hD) hK hP hD (ci := 1) (q0 := 8) rfl rfl) rfl rfl hl.1 rfl (lv_room (Nat.le_of_ble_eq_true rfl)) dX1_isDoorClashing_93 ⟨Nat.le_of_ble_eq_true rfl, Nat.le_of_ble_eq_true rfl⟩) hS hA hP hD (fun r16 u16 H locs hw16 hP hD hS => ?_)
                    obtain ⟨i16, q16, c16, d16⟩ := u16
                    have hw16 : ((r16.toInt = 0 ∧ (y3_3.toInt = -9 ∨ 30 ≤ (i3 123).toInt)) ∨ (r16.toInt = 1 ∧ ¬ y3_3.toInt = -9 ∧ (i3 123).toInt ≤ 29)) ∧ xInv i16 c16 ∧ (∀ k, k ∉ ([123] : List Nat) → i16 k = i3 k) ∧ (∀ k, k ∉ ([122] : List Nat) → c16 k = c3 k) ∧ ((i16 123).toInt = (i3 123).toInt + r16.toInt) ∧ ((r16.toInt = 0 ∧ (c16 122) = (c3 122)) ∨ (r16.toInt = 1 ∧ (c16 122) = upd (c3 122) (i3 123).toNatClampNeg y3_3)) := hw16
                    obtain ⟨hw16, hI, hei16, hec16, hxp16_0, hxp16_1⟩ := hw16
                    have hxp16_0 : (i16 123).toInt = (i3 123).toInt + r16.toInt := hxp16_0
                    have hxp16_1 : (r16.toInt = 0 ∧ (c16 122) = (c3 122)) ∨ (r16.toInt = 1 ∧ (c16 122) = upd (c3 122) (i3 123).toNatClampNeg y3_3) := hxp16_1
                    have hfi : ∀ k, k ∉ ([123] : List Nat) → i16 k = i k := fr_z hfi hei16 (by decide +kernel) (by decide +kernel)
                    have hfc : ∀ k, k ∉ ([122] : List Nat) → c16 k = c k := fr_z hfc hec16 (by decide +kernel) (by decide +kernel)
                    refine lv_pop hx hb dX1_isDoorClashing_96 rfl ?_
                    obtain ⟨x17, ex17⟩ : ∃ y : Int32, y = y3_3 + 1 := ⟨_, rfl⟩
                    have tx17 := ti_add (a := y3_3.toInt) (b := 1) ex17 rfl (by decide +kernel) (by omega) (by omega)
                    refine lv_iinc (v := x17) (lv' := [(3, .int x17), (0, .ref (a 112)), (1, .int w1), (2, .int w2)]) hx hb dX1_isDoorClashing_97 hl (k := 0) rfl (by rw [ex17]; rfl) (by decide +kernel) rfl (fun ls hl => ?_)
                    refine lv_goto (tgt := 54) hx hb dX1_isDoorClashing_100 (by decide +kernel) ?_
                    exact ih3 i16 q16 c16 d16 x17 hI (fr_w hfi (by decide +kernel)) (fr_w hfc (by decide +kernel)) (show 0 ≤ x17.toInt ∧ x17.toInt ≤ 200 ∧ x17.toInt ≤ (i 124).toInt from by have h50 : x17.toInt = (y3_3.toInt + 1) := tx17; omega) (show CN (EB (c 113) (c 115) (c 117) w2.toInt) x17.toInt ((i16 123) : Int32).toInt from CN_y hz3_0 (by omega) (by unfold EB; omega) tx17 (by have h9 := hxp16_0; omega)) (by have h50 : x17.toInt = (y3_3.toInt + 1) := tx17; omega) _ _ _ hP hD hS (lv_sub hl [0, 1, 2, 3] rfl)
        exact lp3 _ i q c d (0 : Int32) hI (fr_w hfi (by decide +kernel)) (fr_w hfc (by decide +kernel)) (show 0 ≤ (0 : Int32).toInt ∧ (0 : Int32).toInt ≤ 200 ∧ (0 : Int32).toInt ≤ (i 124).toInt from by have h50 : (0 : Int32).toInt = 0 := (by decide +kernel); omega) (show CN (EB (c 113) (c 115) (c 117) w2.toInt) (0 : Int32).toInt ((i 123) : Int32).toInt from CN_0 (by decide +kernel) (by omega)) (Nat.lt_succ_self _) _ _ _ hP hD hS (lv_sub hl [0, 1, 2, 3] rfl)
      · have f2 := mt (ti_le (a := 10) (b := y1_3.toInt) (by decide +kernel) rfl).mpr c2
        refine lv_aload_n hx hb dX1_isDoorClashing_8 rfl (lv_at hl 1 rfl) ?_
        refine xgT_B_exitBy hx hb hts (fun _ h => List.mem_cons_of_mem _ (List.mem_append_right _ h)) hown hK hP (hts (.fieldLink RX1 31 "TalePlay$Book" "exitBy" "[I") (List.mem_cons_of_mem _ (List.mem_append_left _ (List.mem_of_getElem? (i := 15) rfl)))) dX1_isDoorClashing_9 ?_
        refine lv_iload_n hx hb dX1_isDoorClashing_12 rfl (lv_at hl 2 rfl) ?_
        refine lv_bipush (v := 10) hx hb dX1_isDoorClashing_13 (by decide +kernel) ?_
        refine lv_imul hx hb dX1_isDoorClashing_15 ?_
        refine lv_topi (fun x18 ex18 => ?_)
        have tx18 := ti_mul (a := w1.toInt) (b := 10) ex18 rfl (by decide +kernel) (by omega) (by omega)
        refine lv_iload_n hx hb dX1_isDoorClashing_16 rfl (lv_at hl 0 rfl) ?_
        refine lv_iadd hx hb dX1_isDoorClashing_17 ?_
        refine lv_topi (fun x19 ex19 => ?_)
        have tx19 := ti_add (a := (w1.toInt * 10)) (b := y1_3.toInt) ex19 tx18 rfl (by omega) (by omega)
        refine xlT_119 hx hb hK hP (vp_in_iff.mpr (by have h9 : x19.toInt = ((w1.toInt * 10) + y1_3.toInt) := tx19; omega)) dX1_isDoorClashing_18 (fun x20 ex20 => ?_)
        have rx20 : x20.toInt = -9 ∨ (0 ≤ x20.toInt ∧ x20.toInt ≤ 199) := by rw [ex20]; exact hI.2 119 _
        have gx20 : (c 119 (x19 : Int32).toNatClampNeg).toInt = x20.toInt := (congrArg Int32.toInt ex20).symm
        refine lv_istore (lv' := [(4, .int x20), (3, .int y1_3), (0, .ref (a 112)), (1, .int w1), (2, .int w2)]) hx hb dX1_isDoorClashing_19 hl (by decide +kernel) rfl (fun ls hl => ?_)
        refine lv_iload hx hb dX1_isDoorClashing_21 (lv_at hl 0 rfl) ?_
        refine lv_bipush (v := (-9)) hx hb dX1_isDoorClashing_23 (by decide +kernel) ?_
        refine lv_icmp_eq (tgt := 46) hx hb dX1_isDoorClashing_25 (by decide +kernel) (fun c21 => ?_) (fun c21 => ?_)
        · have f21 := (ti_eq (a := x20.toInt) (b := (-9)) rfl (by decide +kernel)).mp c21
          obtain ⟨x22, ex22⟩ : ∃ y : Int32, y = y1_3 + 1 := ⟨_, rfl⟩
          have tx22 := ti_add (a := y1_3.toInt) (b := 1) ex22 rfl (by decide +kernel) (by omega) (by omega)
          refine lv_iinc (v := x22) (lv' := [(3, .int x22), (4, .int x20), (0, .ref (a 112)), (1, .int w1), (2, .int w2)]) hx hb dX1_isDoorClashing_46 hl (k := 1) rfl (by rw [ex22]; rfl) (by decide +kernel) rfl (fun ls hl => ?_)
          refine lv_goto (tgt := 2) hx hb dX1_isDoorClashing_49 (by decide +kernel) ?_
          exact ih1 x22 (show 0 ≤ x22.toInt ∧ x22.toInt ≤ 10 from by have h50 : x22.toInt = (y1_3.toInt + 1) := tx22; omega) (show ∀ s : Nat, (s : Int) < x22.toInt → ¬ DP (c 119) (c 115) w1.toInt w2.toInt s from fs_go hz1_0 (by omega) (by unfold DP; rw [cl_nn (by omega), (ix_n (f := c 119) (s := x19) (show (x19 : Int32).toInt = w1.toInt * 10 + y1_3.toInt from by omega) ex20)]; omega) tx22) (show ((i 123) : Int32).toInt = 0 from by have h50 : x22.toInt = (y1_3.toInt + 1) := tx22; omega) (by have h50 : x22.toInt = (y1_3.toInt + 1) := tx22; omega) _ _ _ hP hD hS (lv_sub hl [0, 2, 3, 4] rfl)
        · have f21 := mt (ti_eq (a := x20.toInt) (b := (-9)) rfl (by decide +kernel)).mpr c21
          refine lv_aload_n hx hb dX1_isDoorClashing_28 rfl (lv_at hl 2 rfl) ?_
          refine xgT_B_bs hx hb hts (fun _ h => List.mem_cons_of_mem _ (List.mem_append_right _ h)) hown hK hP (hts (.fieldLink RX1 18 "TalePlay$Book" "bs" "[I") (List.mem_cons_of_mem _ (List.mem_append_left _ (List.mem_of_getElem? (i := 9) rfl)))) dX1_isDoorClashing_29 ?_
          refine lv_iload hx hb dX1_isDoorClashing_32 (lv_at hl 0 rfl) ?_
          refine xlT_115 hx hb hK hP (vp_in_iff.mpr (by have h9 : x20.toInt = x20.toInt := rfl; omega)) dX1_isDoorClashing_34 (fun x23 ex23 => ?_)
          have rx23 : 0 ≤ x23.toInt ∧ x23.toInt ≤ 29 := by rw [ex23]; exact hI.2 115 _
          have gx23 : (c 115 (x20 : Int32).toNatClampNeg).toInt = x23.toInt := (congrArg Int32.toInt ex23).symm
          refine lv_iload_n hx hb dX1_isDoorClashing_35 rfl (lv_at hl 4 rfl) ?_
          refine lv_icmp_ne (tgt := 46) hx hb dX1_isDoorClashing_36 (by decide +kernel) (fun c24 => ?_) (fun c24 => ?_)
          · have f24 := mt (ti_eq (a := x23.toInt) (b := w2.toInt) rfl rfl).mpr c24
            obtain ⟨x25, ex25⟩ : ∃ y : Int32, y = y1_3 + 1 := ⟨_, rfl⟩
            have tx25 := ti_add (a := y1_3.toInt) (b := 1) ex25 rfl (by decide +kernel) (by omega) (by omega)
            refine lv_iinc (v := x25) (lv' := [(3, .int x25), (4, .int x20), (0, .ref (a 112)), (1, .int w1), (2, .int w2)]) hx hb dX1_isDoorClashing_46 hl (k := 1) rfl (by rw [ex25]; rfl) (by decide +kernel) rfl (fun ls hl => ?_)
            refine lv_goto (tgt := 2) hx hb dX1_isDoorClashing_49 (by decide +kernel) ?_
            exact ih1 x25 (show 0 ≤ x25.toInt ∧ x25.toInt ≤ 10 from by have h50 : x25.toInt = (y1_3.toInt + 1) := tx25; omega) (show ∀ s : Nat, (s : Int) < x25.toInt → ¬ DP (c 119) (c 115) w1.toInt w2.toInt s from fs_go hz1_0 (by omega) (by unfold DP; rw [cl_nn (by omega), (ix_n (f := c 119) (s := x19) (show (x19 : Int32).toInt = w1.toInt * 10 + y1_3.toInt from by omega) ex20)]; omega) tx25) (show ((i 123) : Int32).toInt = 0 from by have h50 : x25.toInt = (y1_3.toInt + 1) := tx25; omega) (by have h50 : x25.toInt = (y1_3.toInt + 1) := tx25; omega) _ _ _ hP hD hS (lv_sub hl [0, 2, 3, 4] rfl)
          · have f24 := (ti_eq (a := x23.toInt) (b := w2.toInt) rfl rfl).mp c24
            refine lv_aload_n hx hb dX1_isDoorClashing_39 rfl (lv_at hl 2 rfl) ?_
            refine lv_iload hx hb dX1_isDoorClashing_40 (lv_at hl 0 rfl) ?_
            refine al_calli (va_runV (As := [.int x20]) (rest := []) ⟨hx, hb, hml, hown, hts⟩ (x_X1_addClash_e l D H.size sk a t i q c d x20 hI (show x20.toInt = -9 ∨ (0 ≤ x20.toInt ∧ x20.toInt ≤ 199) from by omega)) (cwV 1 hts gm_X1_isDoorClashing_e_X1_addClash_e_121 rfl rfl rfl (by decide +kernel) ⟨Nat.le_of_ble_eq_true rfl, Nat.le_of_ble_eq_true rfl⟩) (yB_V hN (xZ_k hZ hS hA) (xZ_n hZ hD) hK hP hD (ci := 1) (q0 := 8) rfl rfl) rfl rfl hl.1 rfl (lv_room (Nat.le_of_ble_eq_true rfl)) dX1_isDoorClashing_42 ⟨Nat.le_of_ble_eq_true rfl, Nat.le_of_ble_eq_true rfl⟩) hS hA hP hD (fun r26 u26 H locs hw26 hP hD hS => ?_)
            obtain ⟨i26, q26, c26, d26⟩ := u26
            have hw26 : ((r26.toInt = 0 ∧ (x20.toInt = -9 ∨ 30 ≤ (i 123).toInt)) ∨ (r26.toInt = 1 ∧ ¬ x20.toInt = -9 ∧ (i 123).toInt ≤ 29)) ∧ xInv i26 c26 ∧ (∀ k, k ∉ ([123] : List Nat) → i26 k = i k) ∧ (∀ k, k ∉ ([122] : List Nat) → c26 k = c k) ∧ ((i26 123).toInt = (i 123).toInt + r26.toInt) ∧ ((r26.toInt = 0 ∧ (c26 122) = (c 122)) ∨ (r26.toInt = 1 ∧ (c26 122) = upd (c 122) (i 123).toNatClampNeg x20)) := hw26
            obtain ⟨hw26, hI, hei26, hec26, hxp26_0, hxp26_1⟩ := hw26
            have hxp26_0 : (i26 123).toInt = (i 123).toInt + r26.toInt := hxp26_0
            have hxp26_1 : (r26.toInt = 0 ∧ (c26 122) = (c 122)) ∨ (r26.toInt = 1 ∧ (c26 122) = upd (c 122) (i 123).toNatClampNeg x20) := hxp26_1
            have hfi : ∀ k, k ∉ ([123] : List Nat) → i26 k = i k := fr_z hfi hei26 (by decide +kernel) (by decide +kernel)
            have hfc : ∀ k, k ∉ ([122] : List Nat) → c26 k = c k := fr_z hfc hec26 (by decide +kernel) (by decide +kernel)
            exact rw_zret (i26, q26, c26, d26) hx hb hr hlocks hS (hK.sub (tys' := []) [] rfl) hP hD (nb_n (show 0 ≤ r26.toInt ∧ r26.toInt ≤ 1 from by omega)) dX1_isDoorClashing_45 ⟨⟨(show 0 ≤ r26.toInt ∧ r26.toInt ≤ 1 from by omega), (show Sm r26 (DoX (c 119) (c 113) (c 115) (c 117) (i 124).toInt w1.toInt w2.toInt) from Or.inl ⟨by omega, Or.inl ⟨y1_3.toNatClampNeg, by rw [cl_nn (by omega)]; omega, by unfold DP; rw [cl_nn (by omega), (ix_n (f := c 119) (s := x19) (show (x19 : Int32).toInt = w1.toInt * 10 + y1_3.toInt from by omega) ex20)]; omega⟩⟩)⟩, hI, fr_w hfi (by decide +kernel), fr_w hfc (by decide +kernel)⟩
  exact lp1 _ (0 : Int32) (show 0 ≤ (0 : Int32).toInt ∧ (0 : Int32).toInt ≤ 10 from by have h50 : (0 : Int32).toInt = 0 := (by decide +kernel); omega) (show ∀ s : Nat, (s : Int) < (0 : Int32).toInt → ¬ DP (c 119) (c 115) w1.toInt w2.toInt s from fs_0 (by decide +kernel)) (show ((i 123) : Int32).toInt = 0 from by have h50 : (0 : Int32).toInt = 0 := (by decide +kernel); omega) (Nat.lt_succ_self _) _ _ _ hP hD hS (lv_sub hl [0, 1, 2, 3] rfl)

def wm_X1_isFlagClashing_e : List Cond := .code yX1_isFlagClashing cX1_isFlagClashing 4 (some .boolean) :: ((([.methodLink RX1 140 yX1_saying, .instanceMethod yX1_saying, .selects RX1 yX1_saying yX1_saying, .initialized RX1, .code yX1_saying cX1_saying 5 (some .int), .fieldLink RX1 34 "TalePlay$Book" "flagBy" "[I", .fieldLink RX1 21 "TalePlay$Book" "cs" "[I", .methodLink RX1 121 yX1_addClash, .instanceMethod yX1_addClash, .selects RX1 yX1_addClash yX1_addClash, .code yX1_addClash cX1_addClash 2 (some .boolean), .fieldLink RX1 118 "TalePlay$Book" "clashes" "I", .fieldLink RX1 40 "TalePlay$Book" "clashRow" "[I", .fieldLink RX1 52 "TalePlay$Book" "places" "LTalePlay$Scene;", .methodLink RX1 149 yX6_formOf, .instanceMethod yX6_formOf] : List Cond) ++ ([.selects RX6 yX6_formOf yX6_formOf, .initialized RX6, .code yX6_formOf cX6_formOf 3 (some .int), .fieldLink RX6 9 "TalePlay$Scene" "cells" "[I", .fieldLink RX1 28 "TalePlay$Book" "placeBy" "[I"] : List Cond)) ++ wsX10 ++ wsX60)
set_option maxRecDepth 20000 in
theorem gm_X1_isFlagClashing_e_X1_saying_e_140 : GoodIn wm_X1_isFlagClashing_e (wsV RX1 140 RX1 yX1_saying wm_X1_saying_e) := goodIn_w (List.forall_mem_append.mpr ⟨List.forall_mem_cons.mpr ⟨List.mem_cons_of_mem _ (List.mem_append_left _ (List.mem_append_left _ (List.mem_append_left _ (List.mem_of_getElem? (i := 0) rfl)))), List.forall_mem_cons.mpr ⟨List.mem_cons_of_mem _ (List.mem_append_left _ (List.mem_append_left _ (List.mem_append_left _ (List.mem_of_getElem? (i := 1) rfl)))), List.forall_mem_cons.mpr ⟨List.mem_cons_of_mem _ (List.mem_append_left _ (List.mem_append_left _ (List.mem_append_left _ (List.mem_of_getElem? (i := 2) rfl)))), List.forall_mem_cons.mpr ⟨List.mem_cons_of_mem _ (List.mem_append_left _ (List.mem_append_left _ (List.mem_append_left _ (List.mem_of_getElem? (i := 3) rfl)))), (fun _ h => absurd h List.not_mem_nil)⟩⟩⟩⟩, List.forall_mem_cons.mpr ⟨List.mem_cons_of_mem _ (List.mem_append_left _ (List.mem_append_left _ (List.mem_append_left _ (List.mem_of_getElem? (i := 4) rfl)))), List.forall_mem_append.mpr ⟨List.forall_mem_cons.mpr ⟨List.mem_cons_of_mem _ (List.mem_append_left _ (List.mem_append_left _ (List.mem_append_left _ (List.mem_of_getElem? (i := 5) rfl)))), List.forall_mem_cons.mpr ⟨List.mem_cons_of_mem _ (List.mem_append_left _ (List.mem_append_left _ (List.mem_append_left _ (List.mem_of_getElem? (i := 6) rfl)))), (fun _ h => absurd h List.not_mem_nil)⟩⟩, (fun _ h => List.mem_cons_of_mem _ (List.mem_append_left _ (List.mem_append_right _ h)))⟩⟩⟩) (by decide +kernel)
set_option maxRecDepth 20000 in
theorem gm_X1_isFlagClashing_e_X1_addClash_e_121 : GoodIn wm_X1_isFlagClashing_e (wsV RX1 121 RX1 yX1_addClash wm_X1_addClash_e) := goodIn_w (List.forall_mem_append.mpr ⟨List.forall_mem_cons.mpr ⟨List.mem_cons_of_mem _ (List.mem_append_left _ (List.mem_append_left _ (List.mem_append_left _ (List.mem_of_getElem? (i := 7) rfl)))), List.forall_mem_cons.mpr ⟨List.mem_cons_of_mem _ (List.mem_append_left _ (List.mem_append_left _ (List.mem_append_left _ (List.mem_of_getElem? (i := 8) rfl)))), List.forall_mem_cons.mpr ⟨List.mem_cons_of_mem _ (List.mem_append_left _ (List.mem_append_left _ (List.mem_append_left _ (List.mem_of_getElem? (i := 9) rfl)))), List.forall_mem_cons.mpr ⟨List.mem_cons_of_mem _ (List.mem_append_left _ (List.mem_append_left _ (List.mem_append_left _ (List.mem_of_getElem? (i := 3) rfl)))), (fun _ h => absurd h List.not_mem_nil)⟩⟩⟩⟩, List.forall_mem_cons.mpr ⟨List.mem_cons_of_mem _ (List.mem_append_left _ (List.mem_append_left _ (List.mem_append_left _ (List.mem_of_getElem? (i := 10) rfl)))), List.forall_mem_append.mpr ⟨List.forall_mem_cons.mpr ⟨List.mem_cons_of_mem _ (List.mem_append_left _ (List.mem_append_left _ (List.mem_append_left _ (List.mem_of_getElem? (i := 11) rfl)))), List.forall_mem_cons.mpr ⟨List.mem_cons_of_mem _ (List.mem_append_left _ (List.mem_append_left _ (List.mem_append_left _ (List.mem_of_getElem? (i := 12) rfl)))), (fun _ h => absurd h List.not_mem_nil)⟩⟩, (fun _ h => List.mem_cons_of_mem _ (List.mem_append_left _ (List.mem_append_right _ h)))⟩⟩⟩) (by decide +kernel)
set_option maxRecDepth 20000 in
theorem gm_X1_isFlagClashing_e_X6_formOf_BP_149 : GoodIn wm_X1_isFlagClashing_e (wsV RX1 149 RX6 yX6_formOf wm_X6_formOf_BP) := goodIn_w (List.forall_mem_append.mpr ⟨List.forall_mem_cons.mpr ⟨List.mem_cons_of_mem _ (List.mem_append_left _ (List.mem_append_left _ (List.mem_append_left _ (List.mem_of_getElem? (i := 14) rfl)))), List.forall_mem_cons.mpr ⟨List.mem_cons_of_mem _ (List.mem_append_left _ (List.mem_append_left _ (List.mem_append_left _ (List.mem_of_getElem? (i := 15) rfl)))), List.forall_mem_cons.mpr ⟨List.mem_cons_of_mem _ (List.mem_append_left _ (List.mem_append_left _ (List.mem_append_right _ (List.mem_of_getElem? (i := 0) rfl)))), List.forall_mem_cons.mpr ⟨List.mem_cons_of_mem _ (List.mem_append_left _ (List.mem_append_left _ (List.mem_append_right _ (List.mem_of_getElem? (i := 1) rfl)))), (fun _ h => absurd h List.not_mem_nil)⟩⟩⟩⟩, List.forall_mem_cons.mpr ⟨List.mem_cons_of_mem _ (List.mem_append_left _ (List.mem_append_left _ (List.mem_append_right _ (List.mem_of_getElem? (i := 2) rfl)))), List.forall_mem_append.mpr ⟨List.forall_mem_cons.mpr ⟨List.mem_cons_of_mem _ (List.mem_append_left _ (List.mem_append_left _ (List.mem_append_right _ (List.mem_of_getElem? (i := 3) rfl)))), (fun _ h => absurd h List.not_mem_nil)⟩, (fun _ h => List.mem_cons_of_mem _ (List.mem_append_right _ h))⟩⟩⟩) (by decide +kernel)
set_option maxHeartbeats 4000000 in
set_option maxRecDepth 100000 in
theorem x_X1_isFlagClashing_e (l : Launch) (D : va_G) (sz : Nat) (sk : Value) (a : Nat → Nat) (t : Nat → ClassId) (i : Nat → Int32) (q : Int64) (c : Nat → Nat → Int32) (d : Nat → Nat → Int64) (w1 : Int32) (f : Int32) (v1 : Int32) (hI : xInv i c) (hw1 : 0 ≤ w1.toInt ∧ w1.toInt ≤ 29) (hf : 0 ≤ f.toInt ∧ f.toInt ≤ 5) (hc0 : (i 123).toInt = 0) : Met l yX1_isFlagClashing wm_X1_isFlagClashing_e ({ frames := 1, cells := 0, slots := 0, locals := 24 }) (va_Pc [.ref (a 112), .int w1, .int f, .int v1] (yB (a 186) D sz (xwT sk a t i q c d) (xtT t))) (va_Qi (fun (r : Int32) (u : MS) => ((0 ≤ r.toInt ∧ r.toInt ≤ 1) ∧ (Sm r (FlX (c 118) (c 120) (c 116) (c 127) w1.toInt f.toInt v1.toInt))) ∧ xInv u.1 u.2.2.1 ∧ (∀ k, k ∉ ([123] : List Nat) → u.1 k = i k) ∧ (∀ k, k ∉ ([122] : List Nat) → u.2.2.1 k = c k)) (oC D (va_A (xwT sk a t i q c d) sz) (fun u : MS => xwT sk a t u.1 u.2.1 u.2.2.1 u.2.2.2) (fun _ => [])) (va_A (xwT sk a t i q c d) sz)) 0 0 (va_A (xwT sk a t i q c d) sz) := by
  refine Met.ofW (cc := cX1_isFlagClashing) (maxL := 4) (ret := (some .boolean)) (by decide +kernel) rfl ?_
  intro p e s m args below meth cd s₁ B hml hv
  obtain ⟨rfl, ⟨hsz, hP, hK, hD0⟩, hN, hZ, hBW⟩ := hv
  have hx := B.exec
  have hb := B.bytes
  have hr := B.returns
  have hts := atoms_spec (ws := wm_X1_isFlagClashing_e) B.pre
  have hown : s.vm.findClass RX1 = some m.cls := findClass_of_methodNamed B.named
  have hlocks := B.notSynchronized
  subst hsz
  have hD := hD0.self (sz := s.heap.size)
  have hZ := xZ_A hZ hP hBW
  generalize hAe : va_A (xwT sk a t i q c d) s.heap.size = A at hD hZ ⊢
  have hA : ∀ q : Nat, s.heap.size ≤ q → A q := fun q h => by rw [← hAe]; exact Or.inr h
  have hS : va_S A s.heap s.heap [] := va_S.rf
  have hfi : ∀ k, k ∉ ([] : List Nat) → i k = i k := fun _ _ => rfl
  have hfc : ∀ k, k ∉ ([] : List Nat) → c k = c k := fun _ _ => rfl
  have hl := lv_entry ([.ref (a 112), .int w1, .int f, .int v1]) (n := 4) (Nat.le_of_ble_eq_true rfl)
  rw [lg_entry_eq]
  generalize (lg_sl ([.ref (a 112), .int w1, .int f, .int v1]) ++ List.replicate (4 - (lg_sl ([.ref (a 112), .int w1, .int f, .int v1])).length) Slot.unset).toArray = ls at hl ⊢
  have hl : lv_has ls 4 [(0, .ref (a 112)), (1, .int w1), (2, .int f), (3, .int v1)] := hl
  have rb123_i : 0 ≤ (i 123).toInt ∧ (i 123).toInt ≤ 30 := hI.1 123
  refine lv_iload_n hx hb dX1_isFlagClashing_0 rfl (lv_at hl 2 rfl) ?_
  rcases (show (f.toInt < 0 ∨ 4 < f.toInt) ∨ f.toInt = 0 ∨ f.toInt = 1 ∨ f.toInt = 2 ∨ f.toInt = 3 ∨ f.toInt = 4 by omega) with f1 | f1 | f1 | f1 | f1 | f1
  · refine lv_tableOut (tgt := 127) hx hb dX1_isFlagClashing_1 f1 (by decide +kernel) ?_
    refine lv_iconst (v := 0) hx hb dX1_isFlagClashing_127 (by decide +kernel) ?_
    exact rw_zret (i, q, c, d) hx hb hr hlocks hS (hK.sub (tys' := []) [] rfl) hP hD rfl dX1_isFlagClashing_128 ⟨⟨(show 0 ≤ (0 : Int32).toInt ∧ (0 : Int32).toInt ≤ 1 from by have h9 : (0 : Int32).toInt = 0 := (by decide +kernel); omega), (show Sm (0 : Int32) (FlX (c 118) (c 120) (c 116) (c 127) w1.toInt f.toInt v1.toInt) from sm_0 (fun h9 => by rcases h9 with ⟨h7, h6, h9⟩ | ⟨h7, h6, h9⟩ | h9 <;> first | (exfalso; omega; done)))⟩, hI, fr_w hfi (by decide +kernel), fr_w hfc (by decide +kernel)⟩
  · refine lv_tableIn (off := 35) (tgt := 36) hx hb dX1_isFlagClashing_1 (by omega) (by omega) (by rw [f1]; rfl) (by decide +kernel) ?_
    refine lv_iload_n hx hb dX1_isFlagClashing_36 rfl (lv_at hl 3 rfl) ?_
    refine lv_iconst (v := 1) hx hb dX1_isFlagClashing_37 (by decide +kernel) ?_
    refine lv_icmp_ne (tgt := 59) hx hb dX1_isFlagClashing_38 (by decide +kernel) (fun c2 => ?_) (fun c2 => ?_)
    · have f2 := mt (ti_eq (a := v1.toInt) (b := 1) rfl (by decide +kernel)).mpr c2
      refine lv_iconst (v := 0) hx hb dX1_isFlagClashing_59 (by decide +kernel) ?_
      refine lv_goto (tgt := 128) hx hb dX1_isFlagClashing_60 (by decide +kernel) ?_
      exact rw_zret (i, q, c, d) hx hb hr hlocks hS (hK.sub (tys' := []) [] rfl) hP hD rfl dX1_isFlagClashing_128 ⟨⟨(show 0 ≤ (0 : Int32).toInt ∧ (0 : Int32).toInt ≤ 1 from by have h9 : (0 : Int32).toInt = 0 := (by decide +kernel); omega), (show Sm (0 : Int32) (FlX (c 118) (c 120) (c 116) (c 127) w1.toInt f.toInt v1.toInt) from sm_0 (fun h9 => by rcases h9 with ⟨h7, h6, h9⟩ | ⟨h7, h6, h9⟩ | h9 <;> first | (exfalso; omega; done)))⟩, hI, fr_w hfi (by decide +kernel), fr_w hfc (by decide +kernel)⟩
    · have f2 := (ti_eq (a := v1.toInt) (b := 1) rfl (by decide +kernel)).mp c2
      refine lv_aload_n hx hb dX1_isFlagClashing_41 rfl (lv_at hl 0 rfl) ?_
      refine lv_aload_n hx hb dX1_isFlagClashing_42 rfl (lv_at hl 0 rfl) ?_
      refine lv_iload_n hx hb dX1_isFlagClashing_43 rfl (lv_at hl 1 rfl) ?_
      refine lv_iconst (v := 1) hx hb dX1_isFlagClashing_44 (by decide +kernel) ?_
      refine lv_iconst (v := 1) hx hb dX1_isFlagClashing_45 (by decide +kernel) ?_
      refine ro_calli (va_runV (As := [.int w1, .int 1, .int 1]) (rest := [.ref (a 112)]) ⟨hx, hb, hml, hown, hts⟩ (x_X1_saying_e l D s.heap.size .null a t i q c d w1 1 1 hI (show 0 ≤ w1.toInt ∧ w1.toInt ≤ 29 from by have h91 : (1 : Int32).toInt = 1 := (by decide +kernel); have h92 : (1 : Int32).toInt = 1 := (by decide +kernel); omega) (show 0 ≤ 1 ∧ 1 ≤ 5 from by have h91 : (1 : Int32).toInt = 1 := (by decide +kernel); have h92 : (1 : Int32).toInt = 1 := (by decide +kernel); omega)) (cwV 3 hts gm_X1_isFlagClashing_e_X1_saying_e_140 rfl rfl rfl (by decide +kernel) ⟨Nat.le_of_ble_eq_true rfl, Nat.le_of_ble_eq_true rfl⟩) (yA_V hN (xZ_k hZ hS hA) (xkT_B hK) (xuT_B (sk := sk) hP) (ci := 1) (q0 := 6) rfl rfl) rfl rfl hl.1 rfl (lv_room (Nat.le_of_ble_eq_true rfl)) dX1_isFlagClashing_46 ⟨Nat.le_of_ble_eq_true rfl, Nat.le_of_ble_eq_true rfl⟩) hS hA hP (fun r3 u3 H locs hw3 hP hS => ?_)
      have hw3 : ((r3.toInt = -9 ∨ (0 ≤ r3.toInt ∧ r3.toInt ≤ 199)) ∧ ((r3.toInt = -9 ∧ ¬ SyX (c 120) (c 116) w1.toInt 1 1) ∨ (¬ r3.toInt = -9 ∧ r3 = (c 120 (w1.toInt * 6 + 1).toNat) ∧ SyX (c 120) (c 116) w1.toInt 1 1))) := hw3
      obtain ⟨hw3, hr3_0⟩ := hw3
      have hr3_0 : (r3.toInt = -9 ∧ ¬ SyX (c 120) (c 116) w1.toInt 1 1) ∨ (¬ r3.toInt = -9 ∧ r3 = (c 120 (w1.toInt * 6 + 1).toNat) ∧ SyX (c 120) (c 116) w1.toInt 1 1) := hr3_0
      refine al_calli (va_runV (As := [.int r3]) (rest := []) ⟨hx, hb, hml, hown, hts⟩ (x_X1_addClash_e l D H.size sk a t i q c d r3 hI (show r3.toInt = -9 ∨ (0 ≤ r3.toInt ∧ r3.toInt ≤ 199) from by omega)) (cwV 1 hts gm_X1_isFlagClashing_e_X1_addClash_e_121 rfl rfl rfl (by decide +kernel) ⟨Nat.le_of_ble_eq_true rfl, Nat.le_of_ble_eq_true rfl⟩) (yB_V hN (xZ_k hZ hS hA) (xZ_n hZ hD) hK hP hD (ci := 1) (q0 := 8) rfl rfl) rfl rfl hl.1 rfl (lv_room (Nat.le_of_ble_eq_true rfl)) dX1_isFlagClashing_49 ⟨Nat.le_of_ble_eq_true rfl, Nat.le_of_ble_eq_true rfl⟩) hS hA hP hD (fun r4 u4 H locs hw4 hP hD hS => ?_)
      obtain ⟨i4, q4, c4, d4⟩ := u4
      have hw4 : ((r4.toInt = 0 ∧ (r3.toInt = -9 ∨ 30 ≤ (i 123).toInt)) ∨ (r4.toInt = 1 ∧ ¬ r3.toInt = -9 ∧ (i 123).toInt ≤ 29)) ∧ xInv i4 c4 ∧ (∀ k, k ∉ ([123] : List Nat) → i4 k = i k) ∧ (∀ k, k ∉ ([122] : List Nat) → c4 k = c k) ∧ ((i4 123).toInt = (i 123).toInt + r4.toInt) ∧ ((r4.toInt = 0 ∧ (c4 122) = (c 122)) ∨ (r4.toInt = 1 ∧ (c4 122) = upd (c 122) (i 123).toNatClampNeg r3)) := hw4
      obtain ⟨hw4, hI, hei4, hec4, hxp4_0, hxp4_1⟩ := hw4
      have hxp4_0 : (i4 123).toInt = (i 123).toInt + r4.toInt := hxp4_0
      have hxp4_1 : (r4.toInt = 0 ∧ (c4 122) = (c 122)) ∨ (r4.toInt = 1 ∧ (c4 122) = upd (c 122) (i 123).toNatClampNeg r3) := hxp4_1
      have hfi : ∀ k, k ∉ ([123] : List Nat) → i4 k = i k := fr_z hfi hei4 (by decide +kernel) (by decide +kernel)
      have hfc : ∀ k, k ∉ ([122] : List Nat) → c4 k = c k := fr_z hfc hec4 (by decide +kernel) (by decide +kernel)
      refine lv_if_eq (tgt := 59) hx hb dX1_isFlagClashing_52 (by decide +kernel) (fun c5 => ?_) (fun c5 => ?_)
      · have f5 := (ti_eq (a := r4.toInt) (b := 0) rfl (by decide +kernel)).mp c5
        refine lv_iconst (v := 0) hx hb dX1_isFlagClashing_59 (by decide +kernel) ?_
        refine lv_goto (tgt := 128) hx hb dX1_isFlagClashing_60 (by decide +kernel) ?_
        exact rw_zret (i4, q4, c4, d4) hx hb hr hlocks hS (hK.sub (tys' := []) [] rfl) hP hD rfl dX1_isFlagClashing_128 ⟨⟨(show 0 ≤ (0 : Int32).toInt ∧ (0 : Int32).toInt ≤ 1 from by have h9 : (0 : Int32).toInt = 0 := (by decide +kernel); omega), (show Sm (0 : Int32) (FlX (c 118) (c 120) (c 116) (c 127) w1.toInt f.toInt v1.toInt) from sm_0 (fun h9 => by rcases h9 with ⟨h7, h6, h9⟩ | ⟨h7, h6, h9⟩ | h9 <;> first | (exfalso; omega; done) | (rcases hr3_0 with h8 | h8; (· exact h8.2 h9); (· exfalso; omega))))⟩, hI, fr_w hfi (by decide +kernel), fr_w hfc (by decide +kernel)⟩
      · have f5 := mt (ti_eq (a := r4.toInt) (b := 0) rfl (by decide +kernel)).mpr c5
        refine lv_iconst (v := 1) hx hb dX1_isFlagClashing_55 (by decide +kernel) ?_
        refine lv_goto (tgt := 128) hx hb dX1_isFlagClashing_56 (by decide +kernel) ?_
        exact rw_zret (i4, q4, c4, d4) hx hb hr hlocks hS (hK.sub (tys' := []) [] rfl) hP hD rfl dX1_isFlagClashing_128 ⟨⟨(show 0 ≤ (1 : Int32).toInt ∧ (1 : Int32).toInt ≤ 1 from by have h9 : (1 : Int32).toInt = 1 := (by decide +kernel); omega), (show Sm (1 : Int32) (FlX (c 118) (c 120) (c 116) (c 127) w1.toInt f.toInt v1.toInt) from sm_1 (by first | exact Or.inl ⟨by omega, by omega, by rcases hr3_0 with h9 | h9; (· exfalso; omega); (· exact h9.2.2)⟩ | exact Or.inr (Or.inl ⟨by omega, by omega, by rcases hr3_0 with h9 | h9; (· exfalso; omega); (· exact h9.2.2)⟩)))⟩, hI, fr_w hfi (by decide +kernel), fr_w hfc (by decide +kernel)⟩
  · refine lv_tableIn (off := 62) (tgt := 63) hx hb dX1_isFlagClashing_1 (by omega) (by omega) (by rw [f1]; rfl) (by decide +kernel) ?_
    refine lv_iload_n hx hb dX1_isFlagClashing_63 rfl (lv_at hl 3 rfl) ?_
    refine lv_iconst (v := 1) hx hb dX1_isFlagClashing_64 (by decide +kernel) ?_
    refine lv_icmp_ne (tgt := 86) hx hb dX1_isFlagClashing_65 (by decide +kernel) (fun c6 => ?_) (fun c6 => ?_)
    · have f6 := mt (ti_eq (a := v1.toInt) (b := 1) rfl (by decide +kernel)).mpr c6
      refine lv_iconst (v := 0) hx hb dX1_isFlagClashing_86 (by decide +kernel) ?_
      refine lv_goto (tgt := 128) hx hb dX1_isFlagClashing_87 (by decide +kernel) ?_
      exact rw_zret (i, q, c, d) hx hb hr hlocks hS (hK.sub (tys' := []) [] rfl) hP hD rfl dX1_isFlagClashing_128 ⟨⟨(show 0 ≤ (0 : Int32).toInt ∧ (0 : Int32).toInt ≤ 1 from by have h9 : (0 : Int32).toInt = 0 := (by decide +kernel); omega), (show Sm (0 : Int32) (FlX (c 118) (c 120) (c 116) (c 127) w1.toInt f.toInt v1.toInt) from sm_0 (fun h9 => by rcases h9 with ⟨h7, h6, h9⟩ | ⟨h7, h6, h9⟩ | h9 <;> first | (exfalso; omega; done)))⟩, hI, fr_w hfi (by decide +kernel), fr_w hfc (by decide +kernel)⟩
    · have f6 := (ti_eq (a := v1.toInt) (b := 1) rfl (by decide +kernel)).mp c6
      refine lv_aload_n hx hb dX1_isFlagClashing_68 rfl (lv_at hl 0 rfl) ?_
      refine lv_aload_n hx hb dX1_isFlagClashing_69 rfl (lv_at hl 0 rfl) ?_
      refine lv_iload_n hx hb dX1_isFlagClashing_70 rfl (lv_at hl 1 rfl) ?_
      refine lv_iconst (v := 0) hx hb dX1_isFlagClashing_71 (by decide +kernel) ?_
      refine lv_iconst (v := 1) hx hb dX1_isFlagClashing_72 (by decide +kernel) ?_
      refine ro_calli (va_runV (As := [.int w1, .int 0, .int 1]) (rest := [.ref (a 112)]) ⟨hx, hb, hml, hown, hts⟩ (x_X1_saying_e l D s.heap.size .null a t i q c d w1 0 1 hI (show 0 ≤ w1.toInt ∧ w1.toInt ≤ 29 from by have h91 : (0 : Int32).toInt = 0 := (by decide +kernel); have h92 : (1 : Int32).toInt = 1 := (by decide +kernel); omega) (show 0 ≤ 0 ∧ 0 ≤ 5 from by have h91 : (0 : Int32).toInt = 0 := (by decide +kernel); have h92 : (1 : Int32).toInt = 1 := (by decide +kernel); omega)) (cwV 3 hts gm_X1_isFlagClashing_e_X1_saying_e_140 rfl rfl rfl (by decide +kernel) ⟨Nat.le_of_ble_eq_true rfl, Nat.le_of_ble_eq_true rfl⟩) (yA_V hN (xZ_k hZ hS hA) (xkT_B hK) (xuT_B (sk := sk) hP) (ci := 1) (q0 := 6) rfl rfl) rfl rfl hl.1 rfl (lv_room (Nat.le_of_ble_eq_true rfl)) dX1_isFlagClashing_73 ⟨Nat.le_of_ble_eq_true rfl, Nat.le_of_ble_eq_true rfl⟩) hS hA hP (fun r7 u7 H locs hw7 hP hS => ?_)
      have hw7 : ((r7.toInt = -9 ∨ (0 ≤ r7.toInt ∧ r7.toInt ≤ 199)) ∧ ((r7.toInt = -9 ∧ ¬ SyX (c 120) (c 116) w1.toInt 0 1) ∨ (¬ r7.toInt = -9 ∧ r7 = (c 120 (w1.toInt * 6 + 0).toNat) ∧ SyX (c 120) (c 116) w1.toInt 0 1))) := hw7
      obtain ⟨hw7, hr7_0⟩ := hw7
      have hr7_0 : (r7.toInt = -9 ∧ ¬ SyX (c 120) (c 116) w1.toInt 0 1) ∨ (¬ r7.toInt = -9 ∧ r7 = (c 120 (w1.toInt * 6 + 0).toNat) ∧ SyX (c 120) (c 116) w1.toInt 0 1) := hr7_0
      refine al_calli (va_runV (As := [.int r7]) (rest := []) ⟨hx, hb, hml, hown, hts⟩ (x_X1_addClash_e l D H.size sk a t i q c d r7 hI (show r7.toInt = -9 ∨ (0 ≤ r7.toInt ∧ r7.toInt ≤ 199) from by omega)) (cwV 1 hts gm_X1_isFlagClashing_e_X1_addClash_e_121 rfl rfl rfl (by decide +kernel) ⟨Nat.le_of_ble_eq_true rfl, Nat.le_of_ble_eq_true rfl⟩) (yB_V hN (xZ_k hZ hS hA) (xZ_n hZ hD) hK hP hD (ci := 1) (q0 := 8) rfl rfl) rfl rfl hl.1 rfl (lv_room (Nat.le_of_ble_eq_true rfl)) dX1_isFlagClashing_76 ⟨Nat.le_of_ble_eq_true rfl, Nat.le_of_ble_eq_true rfl⟩) hS hA hP hD (fun r8 u8 H locs hw8 hP hD hS => ?_)
      obtain ⟨i8, q8, c8, d8⟩ := u8
      have hw8 : ((r8.toInt = 0 ∧ (r7.toInt = -9 ∨ 30 ≤ (i 123).toInt)) ∨ (r8.toInt = 1 ∧ ¬ r7.toInt = -9 ∧ (i 123).toInt ≤ 29)) ∧ xInv i8 c8 ∧ (∀ k, k ∉ ([123] : List Nat) → i8 k = i k) ∧ (∀ k, k ∉ ([122] : List Nat) → c8 k = c k) ∧ ((i8 123).toInt = (i 123).toInt + r8.toInt) ∧ ((r8.toInt = 0 ∧ (c8 122) = (c 122)) ∨ (r8.toInt = 1 ∧ (c8 122) = upd (c 122) (i 123).toNatClampNeg r7)) := hw8
      obtain ⟨hw8, hI, hei8, hec8, hxp8_0, hxp8_1⟩ := hw8
      have hxp8_0 : (i8 123).toInt = (i 123).toInt + r8.toInt := hxp8_0
      have hxp8_1 : (r8.toInt = 0 ∧ (c8 122) = (c 122)) ∨ (r8.toInt = 1 ∧ (c8 122) = upd (c 122) (i 123).toNatClampNeg r7) := hxp8_1
      have hfi : ∀ k, k ∉ ([123] : List Nat) → i8 k = i k := fr_z hfi hei8 (by decide +kernel) (by decide +kernel)
      have hfc : ∀ k, k ∉ ([122] : List Nat) → c8 k = c k := fr_z hfc hec8 (by decide +kernel) (by decide +kernel)
      refine lv_if_eq (tgt := 86) hx hb dX1_isFlagClashing_79 (by decide +kernel) (fun c9 => ?_) (fun c9 => ?_)
      · have f9 := (ti_eq (a := r8.toInt) (b := 0) rfl (by decide +kernel)).mp c9
        refine lv_iconst (v := 0) hx hb dX1_isFlagClashing_86 (by decide +kernel) ?_
        refine lv_goto (tgt := 128) hx hb dX1_isFlagClashing_87 (by decide +kernel) ?_
        exact rw_zret (i8, q8, c8, d8) hx hb hr hlocks hS (hK.sub (tys' := []) [] rfl) hP hD rfl dX1_isFlagClashing_128 ⟨⟨(show 0 ≤ (0 : Int32).toInt ∧ (0 : Int32).toInt ≤ 1 from by have h9 : (0 : Int32).toInt = 0 := (by decide +kernel); omega), (show Sm (0 : Int32) (FlX (c 118) (c 120) (c 116) (c 127) w1.toInt f.toInt v1.toInt) from sm_0 (fun h9 => by rcases h9 with ⟨h7, h6, h9⟩ | ⟨h7, h6, h9⟩ | h9 <;> first | (exfalso; omega; done) | (rcases hr7_0 with h8 | h8; (· exact h8.2 h9); (· exfalso; omega))))⟩, hI, fr_w hfi (by decide +kernel), fr_w hfc (by decide +kernel)⟩
      · have f9 := mt (ti_eq (a := r8.toInt) (b := 0) rfl (by decide +kernel)).mpr c9
        refine lv_iconst (v := 1) hx hb dX1_isFlagClashing_82 (by decide +kernel) ?_
        refine lv_goto (tgt := 128) hx hb dX1_isFlagClashing_83 (by decide +kernel) ?_
        exact rw_zret (i8, q8, c8, d8) hx hb hr hlocks hS (hK.sub (tys' := []) [] rfl) hP hD rfl dX1_isFlagClashing_128 ⟨⟨(show 0 ≤ (1 : Int32).toInt ∧ (1 : Int32).toInt ≤ 1 from by have h9 : (1 : Int32).toInt = 1 := (by decide +kernel); omega), (show Sm (1 : Int32) (FlX (c 118) (c 120) (c 116) (c 127) w1.toInt f.toInt v1.toInt) from sm_1 (by first | exact Or.inl ⟨by omega, by omega, by rcases hr7_0 with h9 | h9; (· exfalso; omega); (· exact h9.2.2)⟩ | exact Or.inr (Or.inl ⟨by omega, by omega, by rcases hr7_0 with h9 | h9; (· exfalso; omega); (· exact h9.2.2)⟩)))⟩, hI, fr_w hfi (by decide +kernel), fr_w hfc (by decide +kernel)⟩
  · refine lv_tableIn (off := 126) (tgt := 127) hx hb dX1_isFlagClashing_1 (by omega) (by omega) (by rw [f1]; rfl) (by decide +kernel) ?_
    refine lv_iconst (v := 0) hx hb dX1_isFlagClashing_127 (by decide +kernel) ?_
    exact rw_zret (i, q, c, d) hx hb hr hlocks hS (hK.sub (tys' := []) [] rfl) hP hD rfl dX1_isFlagClashing_128 ⟨⟨(show 0 ≤ (0 : Int32).toInt ∧ (0 : Int32).toInt ≤ 1 from by have h9 : (0 : Int32).toInt = 0 := (by decide +kernel); omega), (show Sm (0 : Int32) (FlX (c 118) (c 120) (c 116) (c 127) w1.toInt f.toInt v1.toInt) from sm_0 (fun h9 => by rcases h9 with ⟨h7, h6, h9⟩ | ⟨h7, h6, h9⟩ | h9 <;> first | (exfalso; omega; done)))⟩, hI, fr_w hfi (by decide +kernel), fr_w hfc (by decide +kernel)⟩
  · refine lv_tableIn (off := 126) (tgt := 127) hx hb dX1_isFlagClashing_1 (by omega) (by omega) (by rw [f1]; rfl) (by decide +kernel) ?_
    refine lv_iconst (v := 0) hx hb dX1_isFlagClashing_127 (by decide +kernel) ?_
    exact rw_zret (i, q, c, d) hx hb hr hlocks hS (hK.sub (tys' := []) [] rfl) hP hD rfl dX1_isFlagClashing_128 ⟨⟨(show 0 ≤ (0 : Int32).toInt ∧ (0 : Int32).toInt ≤ 1 from by have h9 : (0 : Int32).toInt = 0 := (by decide +kernel); omega), (show Sm (0 : Int32) (FlX (c 118) (c 120) (c 116) (c 127) w1.toInt f.toInt v1.toInt) from sm_0 (fun h9 => by rcases h9 with ⟨h7, h6, h9⟩ | ⟨h7, h6, h9⟩ | h9 <;> first | (exfalso; omega; done)))⟩, hI, fr_w hfi (by decide +kernel), fr_w hfc (by decide +kernel)⟩
  · refine lv_tableIn (off := 89) (tgt := 90) hx hb dX1_isFlagClashing_1 (by omega) (by omega) (by rw [f1]; rfl) (by decide +kernel) ?_
    refine lv_iload_n hx hb dX1_isFlagClashing_90 rfl (lv_at hl 3 rfl) ?_
    refine lv_if_ne (tgt := 123) hx hb dX1_isFlagClashing_91 (by decide +kernel) (fun c10 => ?_) (fun c10 => ?_)
    · have f10 := mt (ti_eq (a := v1.toInt) (b := 0) rfl (by decide +kernel)).mpr c10
      refine lv_iconst (v := 0) hx hb dX1_isFlagClashing_123 (by decide +kernel) ?_
      refine lv_goto (tgt := 128) hx hb dX1_isFlagClashing_124 (by decide +kernel) ?_
      exact rw_zret (i, q, c, d) hx hb hr hlocks hS (hK.sub (tys' := []) [] rfl) hP hD rfl dX1_isFlagClashing_128 ⟨⟨(show 0 ≤ (0 : Int32).toInt ∧ (0 : Int32).toInt ≤ 1 from by have h9 : (0 : Int32).toInt = 0 := (by decide +kernel); omega), (show Sm (0 : Int32) (FlX (c 118) (c 120) (c 116) (c 127) w1.toInt f.toInt v1.toInt) from sm_0 (fun h9 => by rcases h9 with ⟨h7, h6, h9⟩ | ⟨h7, h6, h9⟩ | h9 <;> first | (exfalso; omega; done)))⟩, hI, fr_w hfi (by decide +kernel), fr_w hfc (by decide +kernel)⟩
    · have f10 := (ti_eq (a := v1.toInt) (b := 0) rfl (by decide +kernel)).mp c10
      refine lv_aload_n hx hb dX1_isFlagClashing_94 rfl (lv_at hl 0 rfl) ?_
      refine xgT_B_places hx hb hts (fun _ h => List.mem_cons_of_mem _ (List.mem_append_left _ (List.mem_append_right _ h))) hown hK hP (hts (.fieldLink RX1 52 "TalePlay$Book" "places" "LTalePlay$Scene;") (List.mem_cons_of_mem _ (List.mem_append_left _ (List.mem_append_left _ (List.mem_append_left _ (List.mem_of_getElem? (i := 13) rfl)))))) dX1_isFlagClashing_95 ?_
      refine lv_iload_n hx hb dX1_isFlagClashing_98 rfl (lv_at hl 1 rfl) ?_
      refine ro_calli (va_runV (As := [.int w1]) (rest := []) ⟨hx, hb, hml, hown, hts⟩ (x_X6_formOf_BP l D s.heap.size .null a t i q c d w1 hI (show 0 ≤ w1.toInt ∧ w1.toInt ≤ 29 from by omega)) (cwV 1 hts gm_X1_isFlagClashing_e_X6_formOf_BP_149 rfl rfl rfl (by decide +kernel) ⟨Nat.le_of_ble_eq_true rfl, Nat.le_of_ble_eq_true rfl⟩) (yA_V hN (xZ_k hZ hS hA) (xkT_P0 hK) (xuT_P0 (sk := sk) hP) (ci := 6) (q0 := 0) rfl rfl) rfl rfl hl.1 rfl (lv_room (Nat.le_of_ble_eq_true rfl)) dX1_isFlagClashing_99 ⟨Nat.le_of_ble_eq_true rfl, Nat.le_of_ble_eq_true rfl⟩) hS hA hP (fun r11 u11 H locs hw11 hP hS => ?_)
      have hw11 : ((r11.toInt = -9 ∧ (c 127 w1.toNatClampNeg).toInt % 256 = 255) ∨ (0 ≤ r11.toInt ∧ r11.toInt ≤ 4 ∧ ¬ (c 127 w1.toNatClampNeg).toInt % 256 = 255 ∧ r11.toInt = (c 127 w1.toNatClampNeg).toInt % 8)) := hw11
      have hce : (c 127 w1.toInt.toNat).toInt = (c 127 w1.toNatClampNeg).toInt := rfl
      refine lv_iconst (v := 3) hx hb dX1_isFlagClashing_102 (by decide +kernel) ?_
      refine lv_icmp_ne (tgt := 123) hx hb dX1_isFlagClashing_103 (by decide +kernel) (fun c12 => ?_) (fun c12 => ?_)
      · have f12 := mt (ti_eq (a := r11.toInt) (b := 3) rfl (by decide +kernel)).mpr c12
        refine lv_iconst (v := 0) hx hb dX1_isFlagClashing_123 (by decide +kernel) ?_
        refine lv_goto (tgt := 128) hx hb dX1_isFlagClashing_124 (by decide +kernel) ?_
        exact rw_zret (i, q, c, d) hx hb hr hlocks hS (hK.sub (tys' := []) [] rfl) hP hD rfl dX1_isFlagClashing_128 ⟨⟨(show 0 ≤ (0 : Int32).toInt ∧ (0 : Int32).toInt ≤ 1 from by have h9 : (0 : Int32).toInt = 0 := (by decide +kernel); omega), (show Sm (0 : Int32) (FlX (c 118) (c 120) (c 116) (c 127) w1.toInt f.toInt v1.toInt) from sm_0 (fun h9 => by rcases h9 with ⟨h7, h6, h9⟩ | ⟨h7, h6, h9⟩ | h9 <;> first | (exfalso; omega; done)))⟩, hI, fr_w hfi (by decide +kernel), fr_w hfc (by decide +kernel)⟩
      · have f12 := (ti_eq (a := r11.toInt) (b := 3) rfl (by decide +kernel)).mp c12
        refine lv_aload_n hx hb dX1_isFlagClashing_106 rfl (lv_at hl 0 rfl) ?_
        refine lv_aload_n hx hb dX1_isFlagClashing_107 rfl (lv_at hl 0 rfl) ?_
        refine xgT_B_placeBy hx hb hts (fun _ h => List.mem_cons_of_mem _ (List.mem_append_left _ (List.mem_append_right _ h))) hown hK hP (hts (.fieldLink RX1 28 "TalePlay$Book" "placeBy" "[I") (List.mem_cons_of_mem _ (List.mem_append_left _ (List.mem_append_left _ (List.mem_append_right _ (List.mem_of_getElem? (i := 4) rfl)))))) dX1_isFlagClashing_108 ?_
        refine lv_iload_n hx hb dX1_isFlagClashing_111 rfl (lv_at hl 1 rfl) ?_
        refine xlT_118 hx hb hK hP (vp_in_iff.mpr (by have h9 : w1.toInt = w1.toInt := rfl; omega)) dX1_isFlagClashing_112 (fun x13 ex13 => ?_)
        have rx13 : x13.toInt = -9 ∨ (0 ≤ x13.toInt ∧ x13.toInt ≤ 199) := by rw [ex13]; exact hI.2 118 _
        have gx13 : (c 118 (w1 : Int32).toNatClampNeg).toInt = x13.toInt := (congrArg Int32.toInt ex13).symm
        have hpb : (c 118 w1.toInt.toNat).toInt = x13.toInt := gx13
        refine al_calli (va_runV (As := [.int x13]) (rest := []) ⟨hx, hb, hml, hown, hts⟩ (x_X1_addClash_e l D H.size sk a t i q c d x13 hI (show x13.toInt = -9 ∨ (0 ≤ x13.toInt ∧ x13.toInt ≤ 199) from by omega)) (cwV 1 hts gm_X1_isFlagClashing_e_X1_addClash_e_121 rfl rfl rfl (by decide +kernel) ⟨Nat.le_of_ble_eq_true rfl, Nat.le_of_ble_eq_true rfl⟩) (yB_V hN (xZ_k hZ hS hA) (xZ_n hZ hD) hK hP hD (ci := 1) (q0 := 8) rfl rfl) rfl rfl hl.1 rfl (lv_room (Nat.le_of_ble_eq_true rfl)) dX1_isFlagClashing_113 ⟨Nat.le_of_ble_eq_true rfl, Nat.le_of_ble_eq_true rfl⟩) hS hA hP hD (fun r14 u14 H locs hw14 hP hD hS => ?_)
        obtain ⟨i14, q14, c14, d14⟩ := u14
        have hw14 : ((r14.toInt = 0 ∧ (x13.toInt = -9 ∨ 30 ≤ (i 123).toInt)) ∨ (r14.toInt = 1 ∧ ¬ x13.toInt = -9 ∧ (i 123).toInt ≤ 29)) ∧ xInv i14 c14 ∧ (∀ k, k ∉ ([123] : List Nat) → i14 k = i k) ∧ (∀ k, k ∉ ([122] : List Nat) → c14 k = c k) ∧ ((i14 123).toInt = (i 123).toInt + r14.toInt) ∧ ((r14.toInt = 0 ∧ (c14 122) = (c 122)) ∨ (r14.toInt = 1 ∧ (c14 122) = upd (c 122) (i 123).toNatClampNeg x13)) := hw14
        obtain ⟨hw14, hI, hei14, hec14, hxp14_0, hxp14_1⟩ := hw14
        have hxp14_0 : (i14 123).toInt = (i 123).toInt + r14.toInt := hxp14_0
        have hxp14_1 : (r14.toInt = 0 ∧ (c14 122) = (c 122)) ∨ (r14.toInt = 1 ∧ (c14 122) = upd (c 122) (i 123).toNatClampNeg x13) := hxp14_1
        have hfi : ∀ k, k ∉ ([123] : List Nat) → i14 k = i k := fr_z hfi hei14 (by decide +kernel) (by decide +kernel)
        have hfc : ∀ k, k ∉ ([122] : List Nat) → c14 k = c k := fr_z hfc hec14 (by decide +kernel) (by decide +kernel)
        refine lv_if_eq (tgt := 123) hx hb dX1_isFlagClashing_116 (by decide +kernel) (fun c15 => ?_) (fun c15 => ?_)
        · have f15 := (ti_eq (a := r14.toInt) (b := 0) rfl (by decide +kernel)).mp c15
          refine lv_iconst (v := 0) hx hb dX1_isFlagClashing_123 (by decide +kernel) ?_
          refine lv_goto (tgt := 128) hx hb dX1_isFlagClashing_124 (by decide +kernel) ?_
          exact rw_zret (i14, q14, c14, d14) hx hb hr hlocks hS (hK.sub (tys' := []) [] rfl) hP hD rfl dX1_isFlagClashing_128 ⟨⟨(show 0 ≤ (0 : Int32).toInt ∧ (0 : Int32).toInt ≤ 1 from by have h9 : (0 : Int32).toInt = 0 := (by decide +kernel); omega), (show Sm (0 : Int32) (FlX (c 118) (c 120) (c 116) (c 127) w1.toInt f.toInt v1.toInt) from sm_0 (fun h9 => by rcases h9 with ⟨h7, h6, h9⟩ | ⟨h7, h6, h9⟩ | h9 <;> first | (exfalso; omega; done)))⟩, hI, fr_w hfi (by decide +kernel), fr_w hfc (by decide +kernel)⟩
        · have f15 := mt (ti_eq (a := r14.toInt) (b := 0) rfl (by decide +kernel)).mpr c15
          refine lv_iconst (v := 1) hx hb dX1_isFlagClashing_119 (by decide +kernel) ?_
          refine lv_goto (tgt := 128) hx hb dX1_isFlagClashing_120 (by decide +kernel) ?_
          exact rw_zret (i14, q14, c14, d14) hx hb hr hlocks hS (hK.sub (tys' := []) [] rfl) hP hD rfl dX1_isFlagClashing_128 ⟨⟨(show 0 ≤ (1 : Int32).toInt ∧ (1 : Int32).toInt ≤ 1 from by have h9 : (1 : Int32).toInt = 1 := (by decide +kernel); omega), (show Sm (1 : Int32) (FlX (c 118) (c 120) (c 116) (c 127) w1.toInt f.toInt v1.toInt) from sm_1 (Or.inr (Or.inr ⟨by omega, by omega, by omega, by omega, by omega⟩)))⟩, hI, fr_w hfi (by decide +kernel), fr_w hfc (by decide +kernel)⟩

