def wm_X5_drawSaid_e : List Cond := .code yX5_drawSaid cX5_drawSaid 3 none :: ((([.fieldLink RX5 43 "TalePlay$Roads" "book" "LTalePlay$Book;", .fieldLink RX5 74 "TalePlay$Book" "total" "I", .methodLink RX5 78 yX5_isDrawn, .instanceMethod yX5_isDrawn, .selects RX5 yX5_isDrawn yX5_isDrawn, .initialized RX5, .code yX5_isDrawn cX5_isDrawn 2 (some .boolean), .fieldLink RX5 65 "TalePlay$Book" "said" "[Z", .fieldLink RX5 71 "TalePlay$Book" "forms" "[I", .fieldLink RX5 82 "TalePlay$Book" "as" "[I", .fieldLink RX5 85 "TalePlay$Book" "cs" "[I", .fieldLink RX5 18 "TalePlay$Roads" "bys" "[I", .fieldLink RX5 88 "TalePlay$Book" "bs" "[I", .methodLink RX5 91 yX5_drawTarget, .instanceMethod yX5_drawTarget, .selects RX5 yX5_drawTarget yX5_drawTarget] : List Cond) ++ ([.code yX5_drawTarget cX5_drawTarget 4 none, .fieldLink RX5 39 "TalePlay$Roads" "world" "LTalePlay$World;", .methodLink RX5 95 yX10_sortOf, .instanceMethod yX10_sortOf, .selects RX10 yX10_sortOf yX10_sortOf, .initialized RX10, .code yX10_sortOf cX10_sortOf 2 (some .int), .fieldLink RX10 37 "TalePlay$World" "objects" "I", .fieldLink RX10 15 "TalePlay$World" "sorts" "[I", .fieldLink RX10 21 "TalePlay$World" "kindOf" "[I", .fieldLink RX5 15 "TalePlay$Roads" "doors" "[I", .fieldLink RX5 24 "TalePlay$Roads" "firstSides" "[I", .fieldLink RX5 27 "TalePlay$Roads" "secondSides" "[I", .fieldLink RX5 9 "TalePlay$Roads" "leads" "[I"] : List Cond)) ++ wsX50 ++ wsX10 ++ wsX100)
set_option maxRecDepth 20000 in
theorem gm_X5_drawSaid_e_X5_isDrawn_e_78 : GoodIn wm_X5_drawSaid_e (wsV RX5 78 RX5 yX5_isDrawn wm_X5_isDrawn_e) := goodIn_w (List.forall_mem_append.mpr ⟨List.forall_mem_cons.mpr ⟨List.mem_cons_of_mem _ (List.mem_append_left _ (List.mem_append_left _ (List.mem_append_left _ (List.mem_append_left _ (List.mem_of_getElem? (i := 2) rfl))))), List.forall_mem_cons.mpr ⟨List.mem_cons_of_mem _ (List.mem_append_left _ (List.mem_append_left _ (List.mem_append_left _ (List.mem_append_left _ (List.mem_of_getElem? (i := 3) rfl))))), List.forall_mem_cons.mpr ⟨List.mem_cons_of_mem _ (List.mem_append_left _ (List.mem_append_left _ (List.mem_append_left _ (List.mem_append_left _ (List.mem_of_getElem? (i := 4) rfl))))), List.forall_mem_cons.mpr ⟨List.mem_cons_of_mem _ (List.mem_append_left _ (List.mem_append_left _ (List.mem_append_left _ (List.mem_append_left _ (List.mem_of_getElem? (i := 5) rfl))))), (fun _ h => absurd h List.not_mem_nil)⟩⟩⟩⟩, List.forall_mem_cons.mpr ⟨List.mem_cons_of_mem _ (List.mem_append_left _ (List.mem_append_left _ (List.mem_append_left _ (List.mem_append_left _ (List.mem_of_getElem? (i := 6) rfl))))), List.forall_mem_append.mpr ⟨List.forall_mem_append.mpr ⟨List.forall_mem_cons.mpr ⟨List.mem_cons_of_mem _ (List.mem_append_left _ (List.mem_append_left _ (List.mem_append_left _ (List.mem_append_left _ (List.mem_of_getElem? (i := 0) rfl))))), List.forall_mem_cons.mpr ⟨List.mem_cons_of_mem _ (List.mem_append_left _ (List.mem_append_left _ (List.mem_append_left _ (List.mem_append_left _ (List.mem_of_getElem? (i := 7) rfl))))), List.forall_mem_cons.mpr ⟨List.mem_cons_of_mem _ (List.mem_append_left _ (List.mem_append_left _ (List.mem_append_left _ (List.mem_append_left _ (List.mem_of_getElem? (i := 8) rfl))))), (fun _ h => absurd h List.not_mem_nil)⟩⟩⟩, (fun _ h => List.mem_cons_of_mem _ (List.mem_append_left _ (List.mem_append_left _ (List.mem_append_right _ h))))⟩, (fun _ h => List.mem_cons_of_mem _ (List.mem_append_left _ (List.mem_append_right _ h)))⟩⟩⟩) (by decide +kernel)
set_option maxRecDepth 20000 in
theorem gm_X5_drawSaid_e_X5_drawTarget_e_91 : GoodIn wm_X5_drawSaid_e (wsV RX5 91 RX5 yX5_drawTarget wm_X5_drawTarget_e) := goodIn_w (List.forall_mem_append.mpr ⟨List.forall_mem_cons.mpr ⟨List.mem_cons_of_mem _ (List.mem_append_left _ (List.mem_append_left _ (List.mem_append_left _ (List.mem_append_left _ (List.mem_of_getElem? (i := 13) rfl))))), List.forall_mem_cons.mpr ⟨List.mem_cons_of_mem _ (List.mem_append_left _ (List.mem_append_left _ (List.mem_append_left _ (List.mem_append_left _ (List.mem_of_getElem? (i := 14) rfl))))), List.forall_mem_cons.mpr ⟨List.mem_cons_of_mem _ (List.mem_append_left _ (List.mem_append_left _ (List.mem_append_left _ (List.mem_append_left _ (List.mem_of_getElem? (i := 15) rfl))))), List.forall_mem_cons.mpr ⟨List.mem_cons_of_mem _ (List.mem_append_left _ (List.mem_append_left _ (List.mem_append_left _ (List.mem_append_left _ (List.mem_of_getElem? (i := 5) rfl))))), (fun _ h => absurd h List.not_mem_nil)⟩⟩⟩⟩, List.forall_mem_cons.mpr ⟨List.mem_cons_of_mem _ (List.mem_append_left _ (List.mem_append_left _ (List.mem_append_left _ (List.mem_append_right _ (List.mem_of_getElem? (i := 0) rfl))))), List.forall_mem_append.mpr ⟨List.forall_mem_append.mpr ⟨List.forall_mem_cons.mpr ⟨List.mem_cons_of_mem _ (List.mem_append_left _ (List.mem_append_left _ (List.mem_append_left _ (List.mem_append_right _ (List.mem_of_getElem? (i := 1) rfl))))), List.forall_mem_cons.mpr ⟨List.mem_cons_of_mem _ (List.mem_append_left _ (List.mem_append_left _ (List.mem_append_left _ (List.mem_append_right _ (List.mem_of_getElem? (i := 2) rfl))))), List.forall_mem_cons.mpr ⟨List.mem_cons_of_mem _ (List.mem_append_left _ (List.mem_append_left _ (List.mem_append_left _ (List.mem_append_right _ (List.mem_of_getElem? (i := 3) rfl))))), List.forall_mem_cons.mpr ⟨List.mem_cons_of_mem _ (List.mem_append_left _ (List.mem_append_left _ (List.mem_append_left _ (List.mem_append_right _ (List.mem_of_getElem? (i := 4) rfl))))), List.forall_mem_cons.mpr ⟨List.mem_cons_of_mem _ (List.mem_append_left _ (List.mem_append_left _ (List.mem_append_left _ (List.mem_append_right _ (List.mem_of_getElem? (i := 5) rfl))))), List.forall_mem_cons.mpr ⟨List.mem_cons_of_mem _ (List.mem_append_left _ (List.mem_append_left _ (List.mem_append_left _ (List.mem_append_right _ (List.mem_of_getElem? (i := 6) rfl))))), List.forall_mem_cons.mpr ⟨List.mem_cons_of_mem _ (List.mem_append_left _ (List.mem_append_left _ (List.mem_append_left _ (List.mem_append_right _ (List.mem_of_getElem? (i := 7) rfl))))), List.forall_mem_cons.mpr ⟨List.mem_cons_of_mem _ (List.mem_append_left _ (List.mem_append_left _ (List.mem_append_left _ (List.mem_append_right _ (List.mem_of_getElem? (i := 8) rfl))))), List.forall_mem_cons.mpr ⟨List.mem_cons_of_mem _ (List.mem_append_left _ (List.mem_append_left _ (List.mem_append_left _ (List.mem_append_right _ (List.mem_of_getElem? (i := 9) rfl))))), List.forall_mem_cons.mpr ⟨List.mem_cons_of_mem _ (List.mem_append_left _ (List.mem_append_left _ (List.mem_append_left _ (List.mem_append_right _ (List.mem_of_getElem? (i := 10) rfl))))), List.forall_mem_cons.mpr ⟨List.mem_cons_of_mem _ (List.mem_append_left _ (List.mem_append_left _ (List.mem_append_left _ (List.mem_append_right _ (List.mem_of_getElem? (i := 11) rfl))))), List.forall_mem_cons.mpr ⟨List.mem_cons_of_mem _ (List.mem_append_left _ (List.mem_append_left _ (List.mem_append_left _ (List.mem_append_right _ (List.mem_of_getElem? (i := 12) rfl))))), List.forall_mem_cons.mpr ⟨List.mem_cons_of_mem _ (List.mem_append_left _ (List.mem_append_left _ (List.mem_append_left _ (List.mem_append_right _ (List.mem_of_getElem? (i := 13) rfl))))), (fun _ h => absurd h List.not_mem_nil)⟩⟩⟩⟩⟩⟩⟩⟩⟩⟩⟩⟩⟩, (fun _ h => List.mem_cons_of_mem _ (List.mem_append_left _ (List.mem_append_left _ (List.mem_append_right _ h))))⟩, (fun _ h => List.mem_cons_of_mem _ (List.mem_append_right _ h))⟩⟩⟩) (by decide +kernel)
set_option maxHeartbeats 4000000 in
set_option maxRecDepth 100000 in
theorem x_X5_drawSaid_e (l : Launch) (D : va_G) (sz : Nat) (sk : Value) (a : Nat → Nat) (t : Nat → ClassId) (i : Nat → Int32) (q : Int64) (c : Nat → Nat → Int32) (d : Nat → Nat → Int64) (hI : xInv i c) (hs_W : WpD (c 131) (c 129) (c 130) (c 133) (c 134)) : Met l yX5_drawSaid wm_X5_drawSaid_e ({ frames := 2, cells := 0, slots := 0, locals := 44 }) (va_Pc [.ref (a 128)] (yB (a 186) D sz (xwT sk a t i q c d) (xtT t))) (va_Qv (fun (u : MS) => True ∧ xInv u.1 u.2.2.1 ∧ (∀ k, k ∉ ([] : List Nat) → u.1 k = i k) ∧ (∀ k, k ∉ ([129, 130, 131, 133, 134] : List Nat) → u.2.2.1 k = c k) ∧ (D1 (zX (c 106) (c 108) (i 111).toInt) (c 113) (c 114) (c 115) (c 116) (c 117) (i 124).toInt.toNat (u.2.2.1 131) (u.2.2.1 129) (u.2.2.1 130) (u.2.2.1 133) (u.2.2.1 134))) (oC D (va_A (xwT sk a t i q c d) sz) (fun u : MS => xwT sk a t u.1 u.2.1 u.2.2.1 u.2.2.2) (fun _ => [])) (va_A (xwT sk a t i q c d) sz)) 0 0 (va_A (xwT sk a t i q c d) sz) := by
  refine Met.ofW (cc := cX5_drawSaid) (maxL := 3) (ret := none) (by decide +kernel) rfl ?_
  intro p e s m args below meth cd s₁ B hml hv
  obtain ⟨rfl, ⟨hsz, hP, hK, hD0⟩, hN, hZ, hBW⟩ := hv
  have hx := B.exec
  have hb := B.bytes
  have hr := B.returns
  have hts := atoms_spec (ws := wm_X5_drawSaid_e) B.pre
  have hown : s.vm.findClass RX5 = some m.cls := findClass_of_methodNamed B.named
  have hlocks := B.notSynchronized
  subst hsz
  have hD := hD0.self (sz := s.heap.size)
  have hZ := xZ_A hZ hP hBW
  generalize hAe : va_A (xwT sk a t i q c d) s.heap.size = A at hD hZ ⊢
  have hA : ∀ q : Nat, s.heap.size ≤ q → A q := fun q h => by rw [← hAe]; exact Or.inr h
  have hS : va_S A s.heap s.heap [] := va_S.rf
  have hfi : ∀ k, k ∉ ([] : List Nat) → i k = i k := fun _ _ => rfl
  have hfc : ∀ k, k ∉ ([] : List Nat) → c k = c k := fun _ _ => rfl
  have hl := lv_entry ([.ref (a 128)]) (n := 3) (Nat.le_of_ble_eq_true rfl)
  rw [lg_entry_eq]
  generalize (lg_sl ([.ref (a 128)]) ++ List.replicate (3 - (lg_sl ([.ref (a 128)])).length) Slot.unset).toArray = ls at hl ⊢
  have hl : lv_has ls 3 [(0, .ref (a 128))] := hl
  have hI0 := hI
  have rb124_i : 0 ≤ (i 124).toInt ∧ (i 124).toInt ≤ 200 := hI.1 124
  refine lv_iconst (v := 0) hx hb dX5_drawSaid_0 (by decide +kernel) ?_
  refine lv_istore_n (lv' := [(1, .int 0), (0, .ref (a 128))]) hx hb dX5_drawSaid_1 rfl hl (by decide +kernel) rfl (fun ls hl => ?_)
  have lp1 : ∀ (fu : Nat) (i1 : Nat → Int32) (q1 : Int64) (c1 : Nat → Nat → Int32) (d1 : Nat → Nat → Int64) (y1_1 : Int32), xInv i1 c1 → (∀ k, k ∉ ([] : List Nat) → i1 k = i k) → (∀ k, k ∉ ([129, 130, 131, 133, 134] : List Nat) → c1 k = c k) → (0 ≤ y1_1.toInt ∧ y1_1.toInt ≤ 200 ∧ y1_1.toInt ≤ (i 124).toInt) → (D1 (zX (c 106) (c 108) (i 111).toInt) (c 113) (c 114) (c 115) (c 116) (c 117) y1_1.toInt.toNat (c1 131) (c1 129) (c1 130) (c1 133) (c1 134)) → (200 - y1_1.toInt).toNat < fu → ∀ (H : Heap) (locs : List Loc) (ls : Array Slot), va_P D vwCl (xwT sk a t i1 q1 c1 d1) H → va_D A (xwT sk a t i1 q1 c1 d1) → va_S A s.heap H locs → lv_has ls 3 [(1, .int y1_1), (0, .ref (a 128))] → W p l e (headSpec wm_X5_drawSaid_e ({ frames := 2, cells := 0, slots := 0, locals := 44 })).room s m ([.ref (a 128)] : List Value).toArray below meth cd H locs 0 0 (MQ below (va_Qv (fun (u : MS) => True ∧ xInv u.1 u.2.2.1 ∧ (∀ k, k ∉ ([] : List Nat) → u.1 k = i k) ∧ (∀ k, k ∉ ([129, 130, 131, 133, 134] : List Nat) → u.2.2.1 k = c k) ∧ (D1 (zX (c 106) (c 108) (i 111).toInt) (c 113) (c 114) (c 115) (c 116) (c 117) (i 124).toInt.toNat (u.2.2.1 131) (u.2.2.1 129) (u.2.2.1 130) (u.2.2.1 133) (u.2.2.1 134))) (oC D A (fun u : MS => xwT sk a t u.1 u.2.1 u.2.2.1 u.2.2.2) (fun _ => [])) A) ([.ref (a 128)] : List Value).toArray s 0 0 A) (F0 m 2 ls []) := by
    intro fu
    induction fu with
    | zero => intro i1 q1 c1 d1 y1_1 hI hfi hfc hy1_1 hz1_0 hm; exact absurd hm (Nat.not_lt_zero _)
    | succ fu ih =>
      intro i1 q1 c1 d1 y1_1 hI hfi hfc hy1_1 hz1_0 hm H locs ls hP hD hS hl
      have ih1 := ih
      refine lv_iload_n hx hb dX5_drawSaid_2 rfl (lv_at hl 0 rfl) ?_
      refine lv_aload_n hx hb dX5_drawSaid_3 rfl (lv_at hl 1 rfl) ?_
      refine xgT_R_book hx hb hts (fun _ h => List.mem_cons_of_mem _ (List.mem_append_left _ (List.mem_append_left _ (List.mem_append_right _ h)))) hown hK hP (hts (.fieldLink RX5 43 "TalePlay$Roads" "book" "LTalePlay$Book;") (List.mem_cons_of_mem _ (List.mem_append_left _ (List.mem_append_left _ (List.mem_append_left _ (List.mem_append_left _ (List.mem_of_getElem? (i := 0) rfl))))))) dX5_drawSaid_4 ?_
      refine xgT_B_total (v := (i1 124)) rfl hx hb hts (fun _ h => List.mem_cons_of_mem _ (List.mem_append_left _ (List.mem_append_right _ h))) hown hK hP (hts (.fieldLink RX5 74 "TalePlay$Book" "total" "I") (List.mem_cons_of_mem _ (List.mem_append_left _ (List.mem_append_left _ (List.mem_append_left _ (List.mem_append_left _ (List.mem_of_getElem? (i := 1) rfl))))))) dX5_drawSaid_7 ?_
      have rb124_i1 : 0 ≤ (i1 124).toInt ∧ (i1 124).toInt ≤ 200 := hI.1 124
      have re124_i1 : (i1 124).toInt = (i 124).toInt := congrArg Int32.toInt (hfi 124 (by decide +kernel))
      refine lv_icmp_ge (tgt := 80) hx hb dX5_drawSaid_10 (by decide +kernel) (fun c2 => ?_) (fun c2 => ?_)
      · have f2 := (ti_le (a := (i1 124).toInt) (b := y1_1.toInt) rfl rfl).mp c2
        exact rw_vret (i1, q1, c1, d1) hx hb hr hlocks hS (hK.sub (tys' := []) [] rfl) hP hD dX5_drawSaid_80 ⟨trivial, hI, fr_w hfi (by decide +kernel), fr_w hfc (by decide +kernel), (show D1 (zX (c 106) (c 108) (i 111).toInt) (c 113) (c 114) (c 115) (c 116) (c 117) (i 124).toInt.toNat (c1 131) (c1 129) (c1 130) (c1 133) (c1 134) from by rw [show (i 124).toInt = y1_1.toInt by omega]; exact hz1_0)⟩
      · have f2 := mt (ti_le (a := (i1 124).toInt) (b := y1_1.toInt) rfl rfl).mpr c2
        refine lv_aload_n hx hb dX5_drawSaid_13 rfl (lv_at hl 1 rfl) ?_
        refine lv_iload_n hx hb dX5_drawSaid_14 rfl (lv_at hl 0 rfl) ?_
        refine ro_calli (va_runV (As := [.int y1_1]) (rest := []) ⟨hx, hb, hml, hown, hts⟩ (x_X5_isDrawn_e l D H.size .null a t i1 q1 c1 d1 y1_1 hI (show 0 ≤ y1_1.toInt ∧ y1_1.toInt ≤ 199 from by omega)) (cwV 1 hts gm_X5_drawSaid_e_X5_isDrawn_e_78 rfl rfl rfl (by decide +kernel) ⟨Nat.le_of_ble_eq_true rfl, Nat.le_of_ble_eq_true rfl⟩) (yA_V hN (xZ_k hZ hS hA) (xkT_B hK) (xuT_B (sk := sk) hP) (ci := 5) (q0 := 19) rfl rfl) rfl rfl hl.1 rfl (lv_room (Nat.le_of_ble_eq_true rfl)) dX5_drawSaid_15 ⟨Nat.le_of_ble_eq_true rfl, Nat.le_of_ble_eq_true rfl⟩) hS hA hP (fun r3 u3 H locs hw3 hP hS => ?_)
        have hw3 : ((0 ≤ r3.toInt ∧ r3.toInt ≤ 1) ∧ ((r3.toInt = 1 ∧ (c1 117 y1_1.toNatClampNeg).toInt = 1 ∧ (c1 113 y1_1.toNatClampNeg).toInt = 5) ∨ (r3.toInt = 0 ∧ ¬ ((c1 117 y1_1.toNatClampNeg).toInt = 1 ∧ (c1 113 y1_1.toNatClampNeg).toInt = 5)))) := hw3
        obtain ⟨hw3, hr3_0⟩ := hw3
        have hr3_0 : (r3.toInt = 1 ∧ (c 117 y1_1.toNatClampNeg).toInt = 1 ∧ (c 113 y1_1.toNatClampNeg).toInt = 5) ∨ (r3.toInt = 0 ∧ ¬ ((c 117 y1_1.toNatClampNeg).toInt = 1 ∧ (c 113 y1_1.toNatClampNeg).toInt = 5)) := by have h9 := hr3_0; rw [show c1 113 = c 113 from hfc 113 (by decide +kernel), show c1 117 = c 117 from hfc 117 (by decide +kernel)] at h9; exact h9
        refine lv_if_eq (tgt := 74) hx hb dX5_drawSaid_18 (by decide +kernel) (fun c4 => ?_) (fun c4 => ?_)
        · have f4 := (ti_eq (a := r3.toInt) (b := 0) rfl (by decide +kernel)).mp c4
          obtain ⟨x5, ex5⟩ : ∃ y : Int32, y = y1_1 + 1 := ⟨_, rfl⟩
          have tx5 := ti_add (a := y1_1.toInt) (b := 1) ex5 rfl (by decide +kernel) (by omega) (by omega)
          refine lv_iinc (v := x5) (lv' := [(1, .int x5), (0, .ref (a 128))]) hx hb dX5_drawSaid_74 hl (k := 0) rfl (by rw [ex5]; rfl) (by decide +kernel) rfl (fun ls hl => ?_)
          refine lv_goto (tgt := 2) hx hb dX5_drawSaid_77 (by decide +kernel) ?_
          exact ih1 i1 q1 c1 d1 x5 hI (fr_w hfi (by decide +kernel)) (fr_w hfc (by decide +kernel)) (show 0 ≤ x5.toInt ∧ x5.toInt ≤ 200 ∧ x5.toInt ≤ (i 124).toInt from by have h50 : x5.toInt = (y1_1.toInt + 1) := tx5; omega) (show D1 (zX (c 106) (c 108) (i 111).toInt) (c 113) (c 114) (c 115) (c 116) (c 117) x5.toInt.toNat (c1 131) (c1 129) (c1 130) (c1 133) (c1 134) from D1_n hz1_0 (by omega) (by omega) tx5) (by have h50 : x5.toInt = (y1_1.toInt + 1) := tx5; omega) _ _ _ hP hD hS (lv_sub hl [0, 1] rfl)
        · have f4 := mt (ti_eq (a := r3.toInt) (b := 0) rfl (by decide +kernel)).mpr c4
          refine lv_aload_n hx hb dX5_drawSaid_21 rfl (lv_at hl 1 rfl) ?_
          refine xgT_R_book hx hb hts (fun _ h => List.mem_cons_of_mem _ (List.mem_append_left _ (List.mem_append_left _ (List.mem_append_right _ h)))) hown hK hP (hts (.fieldLink RX5 43 "TalePlay$Roads" "book" "LTalePlay$Book;") (List.mem_cons_of_mem _ (List.mem_append_left _ (List.mem_append_left _ (List.mem_append_left _ (List.mem_append_left _ (List.mem_of_getElem? (i := 0) rfl))))))) dX5_drawSaid_22 ?_
          refine xgT_B_as hx hb hts (fun _ h => List.mem_cons_of_mem _ (List.mem_append_left _ (List.mem_append_right _ h))) hown hK hP (hts (.fieldLink RX5 82 "TalePlay$Book" "as" "[I") (List.mem_cons_of_mem _ (List.mem_append_left _ (List.mem_append_left _ (List.mem_append_left _ (List.mem_append_left _ (List.mem_of_getElem? (i := 9) rfl))))))) dX5_drawSaid_25 ?_
          refine lv_iload_n hx hb dX5_drawSaid_28 rfl (lv_at hl 0 rfl) ?_
          refine xlT_114 hx hb hK hP (vp_in_iff.mpr (by have h9 : y1_1.toInt = y1_1.toInt := rfl; omega)) dX5_drawSaid_29 (fun x6 ex6 => ?_)
          have rx6 : 0 ≤ x6.toInt ∧ x6.toInt ≤ 29 := by rw [ex6]; exact hI.2 114 _
          have gx6 : (c 114 (y1_1 : Int32).toNatClampNeg).toInt = x6.toInt := by rw [show x6 = c1 114 (y1_1 : Int32).toNatClampNeg from ex6, show c1 114 = c 114 from hfc 114 (by decide +kernel)]
          refine lv_bipush (v := 10) hx hb dX5_drawSaid_30 (by decide +kernel) ?_
          refine lv_imul hx hb dX5_drawSaid_32 ?_
          refine lv_topi (fun x7 ex7 => ?_)
          have tx7 := ti_mul (a := x6.toInt) (b := 10) ex7 rfl (by decide +kernel) (by omega) (by omega)
          refine lv_aload_n hx hb dX5_drawSaid_33 rfl (lv_at hl 1 rfl) ?_
          refine xgT_R_book hx hb hts (fun _ h => List.mem_cons_of_mem _ (List.mem_append_left _ (List.mem_append_left _ (List.mem_append_right _ h)))) hown hK hP (hts (.fieldLink RX5 43 "TalePlay$Roads" "book" "LTalePlay$Book;") (List.mem_cons_of_mem _ (List.mem_append_left _ (List.mem_append_left _ (List.mem_append_left _ (List.mem_append_left _ (List.mem_of_getElem? (i := 0) rfl))))))) dX5_drawSaid_34 ?_
          refine xgT_B_cs hx hb hts (fun _ h => List.mem_cons_of_mem _ (List.mem_append_left _ (List.mem_append_right _ h))) hown hK hP (hts (.fieldLink RX5 85 "TalePlay$Book" "cs" "[I") (List.mem_cons_of_mem _ (List.mem_append_left _ (List.mem_append_left _ (List.mem_append_left _ (List.mem_append_left _ (List.mem_of_getElem? (i := 10) rfl))))))) dX5_drawSaid_37 ?_
          refine lv_iload_n hx hb dX5_drawSaid_40 rfl (lv_at hl 0 rfl) ?_
          refine xlT_116 hx hb hK hP (vp_in_iff.mpr (by have h9 : y1_1.toInt = y1_1.toInt := rfl; omega)) dX5_drawSaid_41 (fun x8 ex8 => ?_)
          have rx8 : 0 ≤ x8.toInt ∧ x8.toInt ≤ 9 := by rw [ex8]; exact hI.2 116 _
          have gx8 : (c 116 (y1_1 : Int32).toNatClampNeg).toInt = x8.toInt := by rw [show x8 = c1 116 (y1_1 : Int32).toNatClampNeg from ex8, show c1 116 = c 116 from hfc 116 (by decide +kernel)]
          refine lv_iadd hx hb dX5_drawSaid_42 ?_
          refine lv_topi (fun x9 ex9 => ?_)
          have tx9 := ti_add (a := (x6.toInt * 10)) (b := x8.toInt) ex9 tx7 rfl (by omega) (by omega)
          refine lv_istore_n (lv' := [(2, .int x9), (1, .int y1_1), (0, .ref (a 128))]) hx hb dX5_drawSaid_43 rfl hl (by decide +kernel) rfl (fun ls hl => ?_)
          refine lv_aload_n hx hb dX5_drawSaid_44 rfl (lv_at hl 2 rfl) ?_
          refine xgT_R_bys hx hb hts (fun _ h => List.mem_cons_of_mem _ (List.mem_append_left _ (List.mem_append_left _ (List.mem_append_right _ h)))) hown hK hP (hts (.fieldLink RX5 18 "TalePlay$Roads" "bys" "[I") (List.mem_cons_of_mem _ (List.mem_append_left _ (List.mem_append_left _ (List.mem_append_left _ (List.mem_append_left _ (List.mem_of_getElem? (i := 11) rfl))))))) dX5_drawSaid_45 ?_
          refine lv_iload_n hx hb dX5_drawSaid_48 rfl (lv_at hl 0 rfl) ?_
          refine lv_iload_n hx hb dX5_drawSaid_49 rfl (lv_at hl 1 rfl) ?_
          refine xsT_131 hx hb hK hP hD hS (vp_in_iff.mpr (by have h9 : x9.toInt = ((x6.toInt * 10) + x8.toInt) := tx9; omega)) dX5_drawSaid_50 (fun H locs hP hD hS => ?_)
          have hI := xInv_c hI (k := 131) (j := (x9 : Int32).toNatClampNeg) (x := y1_1) (show (y1_1 : Int32).toInt = -9 ∨ (0 ≤ (y1_1 : Int32).toInt ∧ (y1_1 : Int32).toInt ≤ 199) from by omega)
          have hfc := fr_c hfc (k := 131) (j := (x9 : Int32).toNatClampNeg) (x := y1_1) (by decide +kernel)
          refine lv_aload_n hx hb dX5_drawSaid_51 rfl (lv_at hl 2 rfl) ?_
          refine lv_iload_n hx hb dX5_drawSaid_52 rfl (lv_at hl 0 rfl) ?_
          refine lv_aload_n hx hb dX5_drawSaid_53 rfl (lv_at hl 2 rfl) ?_
          refine xgT_R_book hx hb hts (fun _ h => List.mem_cons_of_mem _ (List.mem_append_left _ (List.mem_append_left _ (List.mem_append_right _ h)))) hown hK hP (hts (.fieldLink RX5 43 "TalePlay$Roads" "book" "LTalePlay$Book;") (List.mem_cons_of_mem _ (List.mem_append_left _ (List.mem_append_left _ (List.mem_append_left _ (List.mem_append_left _ (List.mem_of_getElem? (i := 0) rfl))))))) dX5_drawSaid_54 ?_
          refine xgT_B_as hx hb hts (fun _ h => List.mem_cons_of_mem _ (List.mem_append_left _ (List.mem_append_right _ h))) hown hK hP (hts (.fieldLink RX5 82 "TalePlay$Book" "as" "[I") (List.mem_cons_of_mem _ (List.mem_append_left _ (List.mem_append_left _ (List.mem_append_left _ (List.mem_append_left _ (List.mem_of_getElem? (i := 9) rfl))))))) dX5_drawSaid_57 ?_
          refine lv_iload_n hx hb dX5_drawSaid_60 rfl (lv_at hl 1 rfl) ?_
          refine xlT_114 hx hb hK hP (vp_in_iff.mpr (by have h9 : y1_1.toInt = y1_1.toInt := rfl; omega)) dX5_drawSaid_61 (fun x10 ex10 => ?_)
          have rx10 : 0 ≤ x10.toInt ∧ x10.toInt ≤ 29 := by rw [ex10]; exact hI.2 114 _
          have gx10 : (c 114 (y1_1 : Int32).toNatClampNeg).toInt = x10.toInt := by rw [show x10 = (updA c1 131 (x9 : Int32).toNatClampNeg y1_1) 114 (y1_1 : Int32).toNatClampNeg from ex10, show (updA c1 131 (x9 : Int32).toNatClampNeg y1_1) 114 = c 114 from hfc 114 (by decide +kernel)]
          refine lv_aload_n hx hb dX5_drawSaid_62 rfl (lv_at hl 2 rfl) ?_
          refine xgT_R_book hx hb hts (fun _ h => List.mem_cons_of_mem _ (List.mem_append_left _ (List.mem_append_left _ (List.mem_append_right _ h)))) hown hK hP (hts (.fieldLink RX5 43 "TalePlay$Roads" "book" "LTalePlay$Book;") (List.mem_cons_of_mem _ (List.mem_append_left _ (List.mem_append_left _ (List.mem_append_left _ (List.mem_append_left _ (List.mem_of_getElem? (i := 0) rfl))))))) dX5_drawSaid_63 ?_
          refine xgT_B_bs hx hb hts (fun _ h => List.mem_cons_of_mem _ (List.mem_append_left _ (List.mem_append_right _ h))) hown hK hP (hts (.fieldLink RX5 88 "TalePlay$Book" "bs" "[I") (List.mem_cons_of_mem _ (List.mem_append_left _ (List.mem_append_left _ (List.mem_append_left _ (List.mem_append_left _ (List.mem_of_getElem? (i := 12) rfl))))))) dX5_drawSaid_66 ?_
          refine lv_iload_n hx hb dX5_drawSaid_69 rfl (lv_at hl 1 rfl) ?_
          refine xlT_115 hx hb hK hP (vp_in_iff.mpr (by have h9 : y1_1.toInt = y1_1.toInt := rfl; omega)) dX5_drawSaid_70 (fun x11 ex11 => ?_)
          have rx11 : 0 ≤ x11.toInt ∧ x11.toInt ≤ 29 := by rw [ex11]; exact hI.2 115 _
          have gx11 : (c 115 (y1_1 : Int32).toNatClampNeg).toInt = x11.toInt := by rw [show x11 = (updA c1 131 (x9 : Int32).toNatClampNeg y1_1) 115 (y1_1 : Int32).toNatClampNeg from ex11, show (updA c1 131 (x9 : Int32).toNatClampNeg y1_1) 115 = c 115 from hfc 115 (by decide +kernel)]
          have rb111_i1 : 0 ≤ (i1 111).toInt ∧ (i1 111).toInt ≤ 30 := hI.1 111
          have re111_i1 : (i1 111).toInt = (i 111).toInt := congrArg Int32.toInt (hfi 111 (by decide +kernel))
          refine al_callv (va_runV (As := [.int x9, .int x10, .int x11]) (rest := []) ⟨hx, hb, hml, hown, hts⟩ (x_X5_drawTarget_e l D H.size sk a t i1 q1 (updA c1 131 (x9 : Int32).toNatClampNeg y1_1) d1 x9 x10 x11 hI (show 0 ≤ x9.toInt ∧ x9.toInt ≤ 299 from by have h90 : x9.toInt = ((x6.toInt * 10) + x8.toInt) := tx9; omega) (show 0 ≤ x10.toInt ∧ x10.toInt ≤ 29 from by have h90 : x9.toInt = ((x6.toInt * 10) + x8.toInt) := tx9; omega) (show 0 ≤ x11.toInt ∧ x11.toInt ≤ 29 from by have h90 : x9.toInt = ((x6.toInt * 10) + x8.toInt) := tx9; omega)) (cwV 3 hts gm_X5_drawSaid_e_X5_drawTarget_e_91 rfl rfl rfl (by decide +kernel) ⟨Nat.le_of_ble_eq_true rfl, Nat.le_of_ble_eq_true rfl⟩) (yB_V hN (xZ_k hZ hS hA) (xZ_n hZ hD) hK hP hD (ci := 5) (q0 := 21) rfl rfl) rfl rfl hl.1 rfl (lv_room (Nat.le_of_ble_eq_true rfl)) dX5_drawSaid_71 ⟨Nat.le_of_ble_eq_true rfl, Nat.le_of_ble_eq_true rfl⟩) hS hA hP hD (fun u12 H locs hw12 hP hD hS => ?_)
          obtain ⟨i12, q12, c12, d12⟩ := u12
          have hw12 : True ∧ xInv i12 c12 ∧ (∀ k, k ∉ ([] : List Nat) → i12 k = i1 k) ∧ (∀ k, k ∉ ([129, 130, 133, 134] : List Nat) → c12 k = (updA c1 131 (x9 : Int32).toNatClampNeg y1_1) k) ∧ (TgR (zX ((updA c1 131 (x9 : Int32).toNatClampNeg y1_1) 106) ((updA c1 131 (x9 : Int32).toNatClampNeg y1_1) 108) (i1 111).toInt) ((updA c1 131 (x9 : Int32).toNatClampNeg y1_1) 129) ((updA c1 131 (x9 : Int32).toNatClampNeg y1_1) 130) ((updA c1 131 (x9 : Int32).toNatClampNeg y1_1) 133) ((updA c1 131 (x9 : Int32).toNatClampNeg y1_1) 134) (c12 129) (c12 130) (c12 133) (c12 134) x9 x10 x11) := hw12
          obtain ⟨hw12, hI, hei12, hec12, hxp12_0⟩ := hw12
          have hxp12_0 : TgR (zX (c 106) (c 108) (i 111).toInt) ((updA c1 131 (x9 : Int32).toNatClampNeg y1_1) 129) ((updA c1 131 (x9 : Int32).toNatClampNeg y1_1) 130) ((updA c1 131 (x9 : Int32).toNatClampNeg y1_1) 133) ((updA c1 131 (x9 : Int32).toNatClampNeg y1_1) 134) (c12 129) (c12 130) (c12 133) (c12 134) x9 x10 x11 := by have h9 := hxp12_0; rw [show (updA c1 131 (x9 : Int32).toNatClampNeg y1_1) 106 = c 106 from hfc 106 (by decide +kernel), show (updA c1 131 (x9 : Int32).toNatClampNeg y1_1) 108 = c 108 from hfc 108 (by decide +kernel), show i1 111 = i 111 from hfi 111 (by decide +kernel)] at h9; exact h9
          have hfi : ∀ k, k ∉ ([] : List Nat) → i12 k = i k := fr_z hfi hei12 (by decide +kernel) (by decide +kernel)
          have hfc : ∀ k, k ∉ ([129, 130, 131, 133, 134] : List Nat) → c12 k = c k := fr_z hfc hec12 (by decide +kernel) (by decide +kernel)
          obtain ⟨x13, ex13⟩ : ∃ y : Int32, y = y1_1 + 1 := ⟨_, rfl⟩
          have tx13 := ti_add (a := y1_1.toInt) (b := 1) ex13 rfl (by decide +kernel) (by omega) (by omega)
          refine lv_iinc (v := x13) (lv' := [(1, .int x13), (2, .int x9), (0, .ref (a 128))]) hx hb dX5_drawSaid_74 hl (k := 1) rfl (by rw [ex13]; rfl) (by decide +kernel) rfl (fun ls hl => ?_)
          refine lv_goto (tgt := 2) hx hb dX5_drawSaid_77 (by decide +kernel) ?_
          exact ih1 i12 q12 c12 d12 x13 hI (fr_w hfi (by decide +kernel)) (fr_w hfc (by decide +kernel)) (show 0 ≤ x13.toInt ∧ x13.toInt ≤ 200 ∧ x13.toInt ≤ (i 124).toInt from by have h50 : x13.toInt = (y1_1.toInt + 1) := tx13; have h51 : x9.toInt = ((x6.toInt * 10) + x8.toInt) := tx9; omega) (show D1 (zX (c 106) (c 108) (i 111).toInt) (c 113) (c 114) (c 115) (c 116) (c 117) x13.toInt.toNat (c12 131) (c12 129) (c12 130) (c12 133) (c12 134) from by rw [show c12 131 = upd (c1 131) x9.toNatClampNeg y1_1 from (hec12 131 (by decide +kernel)).trans rfl]; exact D1_g hz1_0 (by omega) (by omega) (by omega) (by omega) (by omega) (Int32.toInt_inj.mp gx10.symm) (Int32.toInt_inj.mp gx11.symm) (by omega) (fun s9 => by have h9 : 0 ≤ (c 114 s9).toInt ∧ (c 114 s9).toInt ≤ 29 := hI0.2 114 s9; exact h9.1) (show TgR (zX (c 106) (c 108) (i 111).toInt) (c1 129) (c1 130) (c1 133) (c1 134) (c12 129) (c12 130) (c12 133) (c12 134) x9 x10 x11 from hxp12_0) tx13) (by have h50 : x13.toInt = (y1_1.toInt + 1) := tx13; have h51 : x9.toInt = ((x6.toInt * 10) + x8.toInt) := tx9; omega) _ _ _ hP hD hS (lv_sub hl [0, 2] rfl)
  exact lp1 _ i q c d (0 : Int32) hI (fr_w hfi (by decide +kernel)) (fr_w hfc (by decide +kernel)) (show 0 ≤ (0 : Int32).toInt ∧ (0 : Int32).toInt ≤ 200 ∧ (0 : Int32).toInt ≤ (i 124).toInt from by have h50 : (0 : Int32).toInt = 0 := (by decide +kernel); omega) (show D1 (zX (c 106) (c 108) (i 111).toInt) (c 113) (c 114) (c 115) (c 116) (c 117) (0 : Int32).toInt.toNat (c 131) (c 129) (c 130) (c 133) (c 134) from D1_0 (by decide +kernel) hs_W) (Nat.lt_succ_self _) _ _ _ hP hD hS (lv_sub hl [0, 1] rfl)

def wm_X5_drawImplied_e : List Cond := .code yX5_drawImplied cX5_drawImplied 3 none :: ((([.fieldLink RX5 43 "TalePlay$Roads" "book" "LTalePlay$Book;", .fieldLink RX5 74 "TalePlay$Book" "total" "I", .methodLink RX5 78 yX5_isDrawn, .instanceMethod yX5_isDrawn, .selects RX5 yX5_isDrawn yX5_isDrawn, .initialized RX5, .code yX5_isDrawn cX5_isDrawn 2 (some .boolean), .fieldLink RX5 65 "TalePlay$Book" "said" "[Z", .fieldLink RX5 71 "TalePlay$Book" "forms" "[I", .fieldLink RX5 39 "TalePlay$Roads" "world" "LTalePlay$World;", .fieldLink RX5 88 "TalePlay$Book" "bs" "[I", .methodLink RX5 95 yX10_sortOf, .instanceMethod yX10_sortOf, .selects RX10 yX10_sortOf yX10_sortOf, .initialized RX10, .code yX10_sortOf cX10_sortOf 2 (some .int)] : List Cond) ++ ([.fieldLink RX10 37 "TalePlay$World" "objects" "I", .fieldLink RX10 15 "TalePlay$World" "sorts" "[I", .fieldLink RX10 21 "TalePlay$World" "kindOf" "[I", .fieldLink RX5 85 "TalePlay$Book" "cs" "[I", .fieldLink RX5 18 "TalePlay$Roads" "bys" "[I", .fieldLink RX5 9 "TalePlay$Roads" "leads" "[I", .fieldLink RX5 82 "TalePlay$Book" "as" "[I", .fieldLink RX5 21 "TalePlay$Roads" "implied" "[I"] : List Cond)) ++ wsX50 ++ wsX10 ++ wsX100)
set_option maxRecDepth 20000 in
theorem gm_X5_drawImplied_e_X5_isDrawn_e_78 : GoodIn wm_X5_drawImplied_e (wsV RX5 78 RX5 yX5_isDrawn wm_X5_isDrawn_e) := goodIn_w (List.forall_mem_append.mpr ⟨List.forall_mem_cons.mpr ⟨List.mem_cons_of_mem _ (List.mem_append_left _ (List.mem_append_left _ (List.mem_append_left _ (List.mem_append_left _ (List.mem_of_getElem? (i := 2) rfl))))), List.forall_mem_cons.mpr ⟨List.mem_cons_of_mem _ (List.mem_append_left _ (List.mem_append_left _ (List.mem_append_left _ (List.mem_append_left _ (List.mem_of_getElem? (i := 3) rfl))))), List.forall_mem_cons.mpr ⟨List.mem_cons_of_mem _ (List.mem_append_left _ (List.mem_append_left _ (List.mem_append_left _ (List.mem_append_left _ (List.mem_of_getElem? (i := 4) rfl))))), List.forall_mem_cons.mpr ⟨List.mem_cons_of_mem _ (List.mem_append_left _ (List.mem_append_left _ (List.mem_append_left _ (List.mem_append_left _ (List.mem_of_getElem? (i := 5) rfl))))), (fun _ h => absurd h List.not_mem_nil)⟩⟩⟩⟩, List.forall_mem_cons.mpr ⟨List.mem_cons_of_mem _ (List.mem_append_left _ (List.mem_append_left _ (List.mem_append_left _ (List.mem_append_left _ (List.mem_of_getElem? (i := 6) rfl))))), List.forall_mem_append.mpr ⟨List.forall_mem_append.mpr ⟨List.forall_mem_cons.mpr ⟨List.mem_cons_of_mem _ (List.mem_append_left _ (List.mem_append_left _ (List.mem_append_left _ (List.mem_append_left _ (List.mem_of_getElem? (i := 0) rfl))))), List.forall_mem_cons.mpr ⟨List.mem_cons_of_mem _ (List.mem_append_left _ (List.mem_append_left _ (List.mem_append_left _ (List.mem_append_left _ (List.mem_of_getElem? (i := 7) rfl))))), List.forall_mem_cons.mpr ⟨List.mem_cons_of_mem _ (List.mem_append_left _ (List.mem_append_left _ (List.mem_append_left _ (List.mem_append_left _ (List.mem_of_getElem? (i := 8) rfl))))), (fun _ h => absurd h List.not_mem_nil)⟩⟩⟩, (fun _ h => List.mem_cons_of_mem _ (List.mem_append_left _ (List.mem_append_left _ (List.mem_append_right _ h))))⟩, (fun _ h => List.mem_cons_of_mem _ (List.mem_append_left _ (List.mem_append_right _ h)))⟩⟩⟩) (by decide +kernel)
set_option maxRecDepth 20000 in
theorem gm_X5_drawImplied_e_X10_sortOf_e_95 : GoodIn wm_X5_drawImplied_e (wsV RX5 95 RX10 yX10_sortOf wm_X10_sortOf_e) := goodIn_w (List.forall_mem_append.mpr ⟨List.forall_mem_cons.mpr ⟨List.mem_cons_of_mem _ (List.mem_append_left _ (List.mem_append_left _ (List.mem_append_left _ (List.mem_append_left _ (List.mem_of_getElem? (i := 11) rfl))))), List.forall_mem_cons.mpr ⟨List.mem_cons_of_mem _ (List.mem_append_left _ (List.mem_append_left _ (List.mem_append_left _ (List.mem_append_left _ (List.mem_of_getElem? (i := 12) rfl))))), List.forall_mem_cons.mpr ⟨List.mem_cons_of_mem _ (List.mem_append_left _ (List.mem_append_left _ (List.mem_append_left _ (List.mem_append_left _ (List.mem_of_getElem? (i := 13) rfl))))), List.forall_mem_cons.mpr ⟨List.mem_cons_of_mem _ (List.mem_append_left _ (List.mem_append_left _ (List.mem_append_left _ (List.mem_append_left _ (List.mem_of_getElem? (i := 14) rfl))))), (fun _ h => absurd h List.not_mem_nil)⟩⟩⟩⟩, List.forall_mem_cons.mpr ⟨List.mem_cons_of_mem _ (List.mem_append_left _ (List.mem_append_left _ (List.mem_append_left _ (List.mem_append_left _ (List.mem_of_getElem? (i := 15) rfl))))), List.forall_mem_append.mpr ⟨List.forall_mem_cons.mpr ⟨List.mem_cons_of_mem _ (List.mem_append_left _ (List.mem_append_left _ (List.mem_append_left _ (List.mem_append_right _ (List.mem_of_getElem? (i := 0) rfl))))), List.forall_mem_cons.mpr ⟨List.mem_cons_of_mem _ (List.mem_append_left _ (List.mem_append_left _ (List.mem_append_left _ (List.mem_append_right _ (List.mem_of_getElem? (i := 1) rfl))))), List.forall_mem_cons.mpr ⟨List.mem_cons_of_mem _ (List.mem_append_left _ (List.mem_append_left _ (List.mem_append_left _ (List.mem_append_right _ (List.mem_of_getElem? (i := 2) rfl))))), (fun _ h => absurd h List.not_mem_nil)⟩⟩⟩, (fun _ h => List.mem_cons_of_mem _ (List.mem_append_right _ h))⟩⟩⟩) (by decide +kernel)
set_option maxHeartbeats 4000000 in
set_option maxRecDepth 100000 in
theorem x_X5_drawImplied_e (l : Launch) (D : va_G) (sz : Nat) (sk : Value) (a : Nat → Nat) (t : Nat → ClassId) (i : Nat → Int32) (q : Int64) (c : Nat → Nat → Int32) (d : Nat → Nat → Int64) (hI : xInv i c) (hs_V : Zr (c 132)) : Met l yX5_drawImplied wm_X5_drawImplied_e ({ frames := 1, cells := 0, slots := 0, locals := 21 }) (va_Pc [.ref (a 128)] (yB (a 186) D sz (xwT sk a t i q c d) (xtT t))) (va_Qv (fun (u : MS) => True ∧ xInv u.1 u.2.2.1 ∧ (∀ k, k ∉ ([] : List Nat) → u.1 k = i k) ∧ (∀ k, k ∉ ([129, 131, 132] : List Nat) → u.2.2.1 k = c k) ∧ (D2 (zX (c 106) (c 108) (i 111).toInt) (c 113) (c 114) (c 115) (c 116) (c 117) (i 124).toInt.toNat (c 131) (c 129) (u.2.2.1 131) (u.2.2.1 129) (u.2.2.1 132))) (oC D (va_A (xwT sk a t i q c d) sz) (fun u : MS => xwT sk a t u.1 u.2.1 u.2.2.1 u.2.2.2) (fun _ => [])) (va_A (xwT sk a t i q c d) sz)) 0 0 (va_A (xwT sk a t i q c d) sz) := by
  refine Met.ofW (cc := cX5_drawImplied) (maxL := 3) (ret := none) (by decide +kernel) rfl ?_
  intro p e s m args below meth cd s₁ B hml hv
  obtain ⟨rfl, ⟨hsz, hP, hK, hD0⟩, hN, hZ, hBW⟩ := hv
  have hx := B.exec
  have hb := B.bytes
  have hr := B.returns
  have hts := atoms_spec (ws := wm_X5_drawImplied_e) B.pre
  have hown : s.vm.findClass RX5 = some m.cls := findClass_of_methodNamed B.named
  have hlocks := B.notSynchronized
  subst hsz
  have hD := hD0.self (sz := s.heap.size)
  have hZ := xZ_A hZ hP hBW
  generalize hAe : va_A (xwT sk a t i q c d) s.heap.size = A at hD hZ ⊢
  have hA : ∀ q : Nat, s.heap.size ≤ q → A q := fun q h => by rw [← hAe]; exact Or.inr h
  have hS : va_S A s.heap s.heap [] := va_S.rf
  have hfi : ∀ k, k ∉ ([] : List Nat) → i k = i k := fun _ _ => rfl
  have hfc : ∀ k, k ∉ ([] : List Nat) → c k = c k := fun _ _ => rfl
  have hl := lv_entry ([.ref (a 128)]) (n := 3) (Nat.le_of_ble_eq_true rfl)
  rw [lg_entry_eq]
  generalize (lg_sl ([.ref (a 128)]) ++ List.replicate (3 - (lg_sl ([.ref (a 128)])).length) Slot.unset).toArray = ls at hl ⊢
  have hl : lv_has ls 3 [(0, .ref (a 128))] := hl
  have hI0 := hI
  have rb124_i : 0 ≤ (i 124).toInt ∧ (i 124).toInt ≤ 200 := hI.1 124
  have rb111_i : 0 ≤ (i 111).toInt ∧ (i 111).toInt ≤ 30 := hI.1 111
  refine lv_iconst (v := 0) hx hb dX5_drawImplied_0 (by decide +kernel) ?_
  refine lv_istore_n (lv' := [(1, .int 0), (0, .ref (a 128))]) hx hb dX5_drawImplied_1 rfl hl (by decide +kernel) rfl (fun ls hl => ?_)
  have lp1 : ∀ (fu : Nat) (i1 : Nat → Int32) (q1 : Int64) (c1 : Nat → Nat → Int32) (d1 : Nat → Nat → Int64) (y1_1 : Int32), xInv i1 c1 → (∀ k, k ∉ ([] : List Nat) → i1 k = i k) → (∀ k, k ∉ ([129, 131, 132] : List Nat) → c1 k = c k) → (0 ≤ y1_1.toInt ∧ y1_1.toInt ≤ 200 ∧ y1_1.toInt ≤ (i 124).toInt) → (D2 (zX (c 106) (c 108) (i 111).toInt) (c 113) (c 114) (c 115) (c 116) (c 117) y1_1.toInt.toNat (c 131) (c 129) (c1 131) (c1 129) (c1 132)) → (200 - y1_1.toInt).toNat < fu → ∀ (H : Heap) (locs : List Loc) (ls : Array Slot), va_P D vwCl (xwT sk a t i1 q1 c1 d1) H → va_D A (xwT sk a t i1 q1 c1 d1) → va_S A s.heap H locs → lv_has ls 3 [(1, .int y1_1), (0, .ref (a 128))] → W p l e (headSpec wm_X5_drawImplied_e ({ frames := 1, cells := 0, slots := 0, locals := 21 })).room s m ([.ref (a 128)] : List Value).toArray below meth cd H locs 0 0 (MQ below (va_Qv (fun (u : MS) => True ∧ xInv u.1 u.2.2.1 ∧ (∀ k, k ∉ ([] : List Nat) → u.1 k = i k) ∧ (∀ k, k ∉ ([129, 131, 132] : List Nat) → u.2.2.1 k = c k) ∧ (D2 (zX (c 106) (c 108) (i 111).toInt) (c 113) (c 114) (c 115) (c 116) (c 117) (i 124).toInt.toNat (c 131) (c 129) (u.2.2.1 131) (u.2.2.1 129) (u.2.2.1 132))) (oC D A (fun u : MS => xwT sk a t u.1 u.2.1 u.2.2.1 u.2.2.2) (fun _ => [])) A) ([.ref (a 128)] : List Value).toArray s 0 0 A) (F0 m 2 ls []) := by
    intro fu
    induction fu with
    | zero => intro i1 q1 c1 d1 y1_1 hI hfi hfc hy1_1 hz1_0 hm; exact absurd hm (Nat.not_lt_zero _)
    | succ fu ih =>
      intro i1 q1 c1 d1 y1_1 hI hfi hfc hy1_1 hz1_0 hm H locs ls hP hD hS hl
      have ih1 := ih
      refine lv_iload_n hx hb dX5_drawImplied_2 rfl (lv_at hl 0 rfl) ?_
      refine lv_aload_n hx hb dX5_drawImplied_3 rfl (lv_at hl 1 rfl) ?_
      refine xgT_R_book hx hb hts (fun _ h => List.mem_cons_of_mem _ (List.mem_append_left _ (List.mem_append_left _ (List.mem_append_right _ h)))) hown hK hP (hts (.fieldLink RX5 43 "TalePlay$Roads" "book" "LTalePlay$Book;") (List.mem_cons_of_mem _ (List.mem_append_left _ (List.mem_append_left _ (List.mem_append_left _ (List.mem_append_left _ (List.mem_of_getElem? (i := 0) rfl))))))) dX5_drawImplied_4 ?_
      refine xgT_B_total (v := (i1 124)) rfl hx hb hts (fun _ h => List.mem_cons_of_mem _ (List.mem_append_left _ (List.mem_append_right _ h))) hown hK hP (hts (.fieldLink RX5 74 "TalePlay$Book" "total" "I") (List.mem_cons_of_mem _ (List.mem_append_left _ (List.mem_append_left _ (List.mem_append_left _ (List.mem_append_left _ (List.mem_of_getElem? (i := 1) rfl))))))) dX5_drawImplied_7 ?_
      have rb124_i1 : 0 ≤ (i1 124).toInt ∧ (i1 124).toInt ≤ 200 := hI.1 124
      have re124_i1 : (i1 124).toInt = (i 124).toInt := congrArg Int32.toInt (hfi 124 (by decide +kernel))
      refine lv_icmp_ge (tgt := 111) hx hb dX5_drawImplied_10 (by decide +kernel) (fun c2 => ?_) (fun c2 => ?_)
      · have f2 := (ti_le (a := (i1 124).toInt) (b := y1_1.toInt) rfl rfl).mp c2
        exact rw_vret (i1, q1, c1, d1) hx hb hr hlocks hS (hK.sub (tys' := []) [] rfl) hP hD dX5_drawImplied_111 ⟨trivial, hI, fr_w hfi (by decide +kernel), fr_w hfc (by decide +kernel), (show D2 (zX (c 106) (c 108) (i 111).toInt) (c 113) (c 114) (c 115) (c 116) (c 117) (i 124).toInt.toNat (c 131) (c 129) (c1 131) (c1 129) (c1 132) from by rw [show (i 124).toInt = y1_1.toInt by omega]; exact hz1_0)⟩
      · have f2 := mt (ti_le (a := (i1 124).toInt) (b := y1_1.toInt) rfl rfl).mpr c2
        refine lv_aload_n hx hb dX5_drawImplied_13 rfl (lv_at hl 1 rfl) ?_
        refine lv_iload_n hx hb dX5_drawImplied_14 rfl (lv_at hl 0 rfl) ?_
        refine ro_calli (va_runV (As := [.int y1_1]) (rest := []) ⟨hx, hb, hml, hown, hts⟩ (x_X5_isDrawn_e l D H.size .null a t i1 q1 c1 d1 y1_1 hI (show 0 ≤ y1_1.toInt ∧ y1_1.toInt ≤ 199 from by omega)) (cwV 1 hts gm_X5_drawImplied_e_X5_isDrawn_e_78 rfl rfl rfl (by decide +kernel) ⟨Nat.le_of_ble_eq_true rfl, Nat.le_of_ble_eq_true rfl⟩) (yA_V hN (xZ_k hZ hS hA) (xkT_B hK) (xuT_B (sk := sk) hP) (ci := 5) (q0 := 19) rfl rfl) rfl rfl hl.1 rfl (lv_room (Nat.le_of_ble_eq_true rfl)) dX5_drawImplied_15 ⟨Nat.le_of_ble_eq_true rfl, Nat.le_of_ble_eq_true rfl⟩) hS hA hP (fun r3 u3 H locs hw3 hP hS => ?_)
        have hw3 : ((0 ≤ r3.toInt ∧ r3.toInt ≤ 1) ∧ ((r3.toInt = 1 ∧ (c1 117 y1_1.toNatClampNeg).toInt = 1 ∧ (c1 113 y1_1.toNatClampNeg).toInt = 5) ∨ (r3.toInt = 0 ∧ ¬ ((c1 117 y1_1.toNatClampNeg).toInt = 1 ∧ (c1 113 y1_1.toNatClampNeg).toInt = 5)))) := hw3
        obtain ⟨hw3, hr3_0⟩ := hw3
        have hr3_0 : (r3.toInt = 1 ∧ (c 117 y1_1.toNatClampNeg).toInt = 1 ∧ (c 113 y1_1.toNatClampNeg).toInt = 5) ∨ (r3.toInt = 0 ∧ ¬ ((c 117 y1_1.toNatClampNeg).toInt = 1 ∧ (c 113 y1_1.toNatClampNeg).toInt = 5)) := by have h9 := hr3_0; rw [show c1 113 = c 113 from hfc 113 (by decide +kernel), show c1 117 = c 117 from hfc 117 (by decide +kernel)] at h9; exact h9
        refine lv_if_eq (tgt := 105) hx hb dX5_drawImplied_18 (by decide +kernel) (fun c4 => ?_) (fun c4 => ?_)
        · have f4 := (ti_eq (a := r3.toInt) (b := 0) rfl (by decide +kernel)).mp c4
          obtain ⟨x5, ex5⟩ : ∃ y : Int32, y = y1_1 + 1 := ⟨_, rfl⟩
          have tx5 := ti_add (a := y1_1.toInt) (b := 1) ex5 rfl (by decide +kernel) (by omega) (by omega)
          refine lv_iinc (v := x5) (lv' := [(1, .int x5), (0, .ref (a 128))]) hx hb dX5_drawImplied_105 hl (k := 0) rfl (by rw [ex5]; rfl) (by decide +kernel) rfl (fun ls hl => ?_)
          refine lv_goto (tgt := 2) hx hb dX5_drawImplied_108 (by decide +kernel) ?_
          exact ih1 i1 q1 c1 d1 x5 hI (fr_w hfi (by decide +kernel)) (fr_w hfc (by decide +kernel)) (show 0 ≤ x5.toInt ∧ x5.toInt ≤ 200 ∧ x5.toInt ≤ (i 124).toInt from by have h50 : x5.toInt = (y1_1.toInt + 1) := tx5; omega) (show D2 (zX (c 106) (c 108) (i 111).toInt) (c 113) (c 114) (c 115) (c 116) (c 117) x5.toInt.toNat (c 131) (c 129) (c1 131) (c1 129) (c1 132) from D2_n hz1_0 (by omega) (by omega) tx5) (by have h50 : x5.toInt = (y1_1.toInt + 1) := tx5; omega) _ _ _ hP hD hS (lv_sub hl [0, 1] rfl)
        · have f4 := mt (ti_eq (a := r3.toInt) (b := 0) rfl (by decide +kernel)).mpr c4
          refine lv_aload_n hx hb dX5_drawImplied_21 rfl (lv_at hl 1 rfl) ?_
          refine xgT_R_world hx hb hts (fun _ h => List.mem_cons_of_mem _ (List.mem_append_left _ (List.mem_append_left _ (List.mem_append_right _ h)))) hown hK hP (hts (.fieldLink RX5 39 "TalePlay$Roads" "world" "LTalePlay$World;") (List.mem_cons_of_mem _ (List.mem_append_left _ (List.mem_append_left _ (List.mem_append_left _ (List.mem_append_left _ (List.mem_of_getElem? (i := 9) rfl))))))) dX5_drawImplied_22 ?_
          refine lv_aload_n hx hb dX5_drawImplied_25 rfl (lv_at hl 1 rfl) ?_
          refine xgT_R_book hx hb hts (fun _ h => List.mem_cons_of_mem _ (List.mem_append_left _ (List.mem_append_left _ (List.mem_append_right _ h)))) hown hK hP (hts (.fieldLink RX5 43 "TalePlay$Roads" "book" "LTalePlay$Book;") (List.mem_cons_of_mem _ (List.mem_append_left _ (List.mem_append_left _ (List.mem_append_left _ (List.mem_append_left _ (List.mem_of_getElem? (i := 0) rfl))))))) dX5_drawImplied_26 ?_
          refine xgT_B_bs hx hb hts (fun _ h => List.mem_cons_of_mem _ (List.mem_append_left _ (List.mem_append_right _ h))) hown hK hP (hts (.fieldLink RX5 88 "TalePlay$Book" "bs" "[I") (List.mem_cons_of_mem _ (List.mem_append_left _ (List.mem_append_left _ (List.mem_append_left _ (List.mem_append_left _ (List.mem_of_getElem? (i := 10) rfl))))))) dX5_drawImplied_29 ?_
          refine lv_iload_n hx hb dX5_drawImplied_32 rfl (lv_at hl 0 rfl) ?_
          refine xlT_115 hx hb hK hP (vp_in_iff.mpr (by have h9 : y1_1.toInt = y1_1.toInt := rfl; omega)) dX5_drawImplied_33 (fun x6 ex6 => ?_)
          have rx6 : 0 ≤ x6.toInt ∧ x6.toInt ≤ 29 := by rw [ex6]; exact hI.2 115 _
          have gx6 : (c 115 (y1_1 : Int32).toNatClampNeg).toInt = x6.toInt := by rw [show x6 = c1 115 (y1_1 : Int32).toNatClampNeg from ex6, show c1 115 = c 115 from hfc 115 (by decide +kernel)]
          have rb111_i1 : 0 ≤ (i1 111).toInt ∧ (i1 111).toInt ≤ 30 := hI.1 111
          have re111_i1 : (i1 111).toInt = (i 111).toInt := congrArg Int32.toInt (hfi 111 (by decide +kernel))
          refine ro_calli (va_runV (As := [.int x6]) (rest := []) ⟨hx, hb, hml, hown, hts⟩ (x_X10_sortOf_e l D H.size .null a t i1 q1 c1 d1 x6 hI ) (cwV 1 hts gm_X5_drawImplied_e_X10_sortOf_e_95 rfl rfl rfl (by decide +kernel) ⟨Nat.le_of_ble_eq_true rfl, Nat.le_of_ble_eq_true rfl⟩) (yA_V hN (xZ_k hZ hS hA) (xkT_W hK) (xuT_W (sk := sk) hP) (ci := 10) (q0 := 0) rfl rfl) rfl rfl hl.1 rfl (lv_room (Nat.le_of_ble_eq_true rfl)) dX5_drawImplied_34 ⟨Nat.le_of_ble_eq_true rfl, Nat.le_of_ble_eq_true rfl⟩) hS hA hP (fun r7 u7 H locs hw7 hP hS => ?_)
          have hw7 : (((r7.toInt = -9 ∧ ¬ (0 ≤ x6.toInt ∧ x6.toInt < (i1 111).toInt)) ∨ (0 ≤ r7.toInt ∧ r7.toInt ≤ 5 ∧ 0 ≤ x6.toInt ∧ x6.toInt < (i1 111).toInt)) ∧ (SO (c1 106) (c1 108) (i1 111).toInt x6.toInt r7.toInt)) := hw7
          obtain ⟨hw7, hr7_0⟩ := hw7
          have hr7_0 : SO (c 106) (c 108) (i 111).toInt x6.toInt r7.toInt := by have h9 := hr7_0; rw [show c1 106 = c 106 from hfc 106 (by decide +kernel), show c1 108 = c 108 from hfc 108 (by decide +kernel), show i1 111 = i 111 from hfi 111 (by decide +kernel)] at h9; exact h9
          have hzv : r7.toInt = (zX (c 106) (c 108) (i 111).toInt) (c 115 y1_1.toNatClampNeg).toInt := by rw [gx6]; exact SO_z hr7_0
          refine lv_if_ne (tgt := 105) hx hb dX5_drawImplied_37 (by decide +kernel) (fun c8 => ?_) (fun c8 => ?_)
          · have f8 := mt (ti_eq (a := r7.toInt) (b := 0) rfl (by decide +kernel)).mpr c8
            obtain ⟨x9, ex9⟩ : ∃ y : Int32, y = y1_1 + 1 := ⟨_, rfl⟩
            have tx9 := ti_add (a := y1_1.toInt) (b := 1) ex9 rfl (by decide +kernel) (by omega) (by omega)
            refine lv_iinc (v := x9) (lv' := [(1, .int x9), (0, .ref (a 128))]) hx hb dX5_drawImplied_105 hl (k := 0) rfl (by rw [ex9]; rfl) (by decide +kernel) rfl (fun ls hl => ?_)
            refine lv_goto (tgt := 2) hx hb dX5_drawImplied_108 (by decide +kernel) ?_
            exact ih1 i1 q1 c1 d1 x9 hI (fr_w hfi (by decide +kernel)) (fr_w hfc (by decide +kernel)) (show 0 ≤ x9.toInt ∧ x9.toInt ≤ 200 ∧ x9.toInt ≤ (i 124).toInt from by have h50 : x9.toInt = (y1_1.toInt + 1) := tx9; omega) (show D2 (zX (c 106) (c 108) (i 111).toInt) (c 113) (c 114) (c 115) (c 116) (c 117) x9.toInt.toNat (c 131) (c 129) (c1 131) (c1 129) (c1 132) from D2_n hz1_0 (by omega) (by omega) tx9) (by have h50 : x9.toInt = (y1_1.toInt + 1) := tx9; omega) _ _ _ hP hD hS (lv_sub hl [0, 1] rfl)
          · have f8 := (ti_eq (a := r7.toInt) (b := 0) rfl (by decide +kernel)).mp c8
            refine lv_aload_n hx hb dX5_drawImplied_40 rfl (lv_at hl 1 rfl) ?_
            refine xgT_R_book hx hb hts (fun _ h => List.mem_cons_of_mem _ (List.mem_append_left _ (List.mem_append_left _ (List.mem_append_right _ h)))) hown hK hP (hts (.fieldLink RX5 43 "TalePlay$Roads" "book" "LTalePlay$Book;") (List.mem_cons_of_mem _ (List.mem_append_left _ (List.mem_append_left _ (List.mem_append_left _ (List.mem_append_left _ (List.mem_of_getElem? (i := 0) rfl))))))) dX5_drawImplied_41 ?_
            refine xgT_B_bs hx hb hts (fun _ h => List.mem_cons_of_mem _ (List.mem_append_left _ (List.mem_append_right _ h))) hown hK hP (hts (.fieldLink RX5 88 "TalePlay$Book" "bs" "[I") (List.mem_cons_of_mem _ (List.mem_append_left _ (List.mem_append_left _ (List.mem_append_left _ (List.mem_append_left _ (List.mem_of_getElem? (i := 10) rfl))))))) dX5_drawImplied_44 ?_
            refine lv_iload_n hx hb dX5_drawImplied_47 rfl (lv_at hl 0 rfl) ?_
            refine xlT_115 hx hb hK hP (vp_in_iff.mpr (by have h9 : y1_1.toInt = y1_1.toInt := rfl; omega)) dX5_drawImplied_48 (fun x10 ex10 => ?_)
            have rx10 : 0 ≤ x10.toInt ∧ x10.toInt ≤ 29 := by rw [ex10]; exact hI.2 115 _
            have gx10 : (c 115 (y1_1 : Int32).toNatClampNeg).toInt = x10.toInt := by rw [show x10 = c1 115 (y1_1 : Int32).toNatClampNeg from ex10, show c1 115 = c 115 from hfc 115 (by decide +kernel)]
            refine lv_bipush (v := 10) hx hb dX5_drawImplied_49 (by decide +kernel) ?_
            refine lv_imul hx hb dX5_drawImplied_51 ?_
            refine lv_topi (fun x11 ex11 => ?_)
            have tx11 := ti_mul (a := x10.toInt) (b := 10) ex11 rfl (by decide +kernel) (by omega) (by omega)
            refine lv_aload_n hx hb dX5_drawImplied_52 rfl (lv_at hl 1 rfl) ?_
            refine xgT_R_book hx hb hts (fun _ h => List.mem_cons_of_mem _ (List.mem_append_left _ (List.mem_append_left _ (List.mem_append_right _ h)))) hown hK hP (hts (.fieldLink RX5 43 "TalePlay$Roads" "book" "LTalePlay$Book;") (List.mem_cons_of_mem _ (List.mem_append_left _ (List.mem_append_left _ (List.mem_append_left _ (List.mem_append_left _ (List.mem_of_getElem? (i := 0) rfl))))))) dX5_drawImplied_53 ?_
            refine xgT_B_cs hx hb hts (fun _ h => List.mem_cons_of_mem _ (List.mem_append_left _ (List.mem_append_right _ h))) hown hK hP (hts (.fieldLink RX5 85 "TalePlay$Book" "cs" "[I") (List.mem_cons_of_mem _ (List.mem_append_left _ (List.mem_append_left _ (List.mem_append_left _ (List.mem_append_right _ (List.mem_of_getElem? (i := 3) rfl))))))) dX5_drawImplied_56 ?_
            refine lv_iload_n hx hb dX5_drawImplied_59 rfl (lv_at hl 0 rfl) ?_
            refine xlT_116 hx hb hK hP (vp_in_iff.mpr (by have h9 : y1_1.toInt = y1_1.toInt := rfl; omega)) dX5_drawImplied_60 (fun x12 ex12 => ?_)
            have rx12 : 0 ≤ x12.toInt ∧ x12.toInt ≤ 9 := by rw [ex12]; exact hI.2 116 _
            have gx12 : (c 116 (y1_1 : Int32).toNatClampNeg).toInt = x12.toInt := by rw [show x12 = c1 116 (y1_1 : Int32).toNatClampNeg from ex12, show c1 116 = c 116 from hfc 116 (by decide +kernel)]
            refine lv_iconst (v := 1) hx hb dX5_drawImplied_61 (by decide +kernel) ?_
            refine lv_ixor hx hb dX5_drawImplied_62 ?_
            refine lv_topi (fun x13 ex13 => ?_)
            have bx13 := xor1 (by omega) ex13
            have ox13 := xor1o (by omega) ex13
            refine lv_iadd hx hb dX5_drawImplied_63 ?_
            refine lv_topi (fun x14 ex14 => ?_)
            have tx14 := ti_add (a := (x10.toInt * 10)) (b := x13.toInt) ex14 tx11 rfl (by omega) (by omega)
            refine lv_istore_n (lv' := [(2, .int x14), (1, .int y1_1), (0, .ref (a 128))]) hx hb dX5_drawImplied_64 rfl hl (by decide +kernel) rfl (fun ls hl => ?_)
            refine lv_aload_n hx hb dX5_drawImplied_65 rfl (lv_at hl 2 rfl) ?_
            refine xgT_R_bys hx hb hts (fun _ h => List.mem_cons_of_mem _ (List.mem_append_left _ (List.mem_append_left _ (List.mem_append_right _ h)))) hown hK hP (hts (.fieldLink RX5 18 "TalePlay$Roads" "bys" "[I") (List.mem_cons_of_mem _ (List.mem_append_left _ (List.mem_append_left _ (List.mem_append_left _ (List.mem_append_right _ (List.mem_of_getElem? (i := 4) rfl))))))) dX5_drawImplied_66 ?_
            refine lv_iload_n hx hb dX5_drawImplied_69 rfl (lv_at hl 0 rfl) ?_
            refine xlT_131 hx hb hK hP (vp_in_iff.mpr (by have h9 : x14.toInt = ((x10.toInt * 10) + x13.toInt) := tx14; omega)) dX5_drawImplied_70 (fun x15 ex15 => ?_)
            have rx15 : x15.toInt = -9 ∨ (0 ≤ x15.toInt ∧ x15.toInt ≤ 199) := by rw [ex15]; exact hI.2 131 _
            have gx15 : (c1 131 (x14 : Int32).toNatClampNeg).toInt = x15.toInt := by rw [ex15]
            refine lv_bipush (v := (-9)) hx hb dX5_drawImplied_71 (by decide +kernel) ?_
            refine lv_icmp_ne (tgt := 105) hx hb dX5_drawImplied_73 (by decide +kernel) (fun c16 => ?_) (fun c16 => ?_)
            · have f16 := mt (ti_eq (a := x15.toInt) (b := (-9)) rfl (by decide +kernel)).mpr c16
              obtain ⟨x17, ex17⟩ : ∃ y : Int32, y = y1_1 + 1 := ⟨_, rfl⟩
              have tx17 := ti_add (a := y1_1.toInt) (b := 1) ex17 rfl (by decide +kernel) (by omega) (by omega)
              refine lv_iinc (v := x17) (lv' := [(1, .int x17), (2, .int x14), (0, .ref (a 128))]) hx hb dX5_drawImplied_105 hl (k := 1) rfl (by rw [ex17]; rfl) (by decide +kernel) rfl (fun ls hl => ?_)
              refine lv_goto (tgt := 2) hx hb dX5_drawImplied_108 (by decide +kernel) ?_
              exact ih1 i1 q1 c1 d1 x17 hI (fr_w hfi (by decide +kernel)) (fr_w hfc (by decide +kernel)) (show 0 ≤ x17.toInt ∧ x17.toInt ≤ 200 ∧ x17.toInt ≤ (i 124).toInt from by have h50 : x17.toInt = (y1_1.toInt + 1) := tx17; have h51 : x14.toInt = ((x10.toInt * 10) + x13.toInt) := tx14; omega) (show D2 (zX (c 106) (c 108) (i 111).toInt) (c 113) (c 114) (c 115) (c 116) (c 117) x17.toInt.toNat (c 131) (c 129) (c1 131) (c1 129) (c1 132) from D2_k (k := x14) hz1_0 (by omega) (by omega) (by omega) (by omega) (by rw [gx12]; omega) (by omega) tx17) (by have h50 : x17.toInt = (y1_1.toInt + 1) := tx17; have h51 : x14.toInt = ((x10.toInt * 10) + x13.toInt) := tx14; omega) _ _ _ hP hD hS (lv_sub hl [0, 2] rfl)
            · have f16 := (ti_eq (a := x15.toInt) (b := (-9)) rfl (by decide +kernel)).mp c16
              refine lv_aload_n hx hb dX5_drawImplied_76 rfl (lv_at hl 2 rfl) ?_
              refine xgT_R_bys hx hb hts (fun _ h => List.mem_cons_of_mem _ (List.mem_append_left _ (List.mem_append_left _ (List.mem_append_right _ h)))) hown hK hP (hts (.fieldLink RX5 18 "TalePlay$Roads" "bys" "[I") (List.mem_cons_of_mem _ (List.mem_append_left _ (List.mem_append_left _ (List.mem_append_left _ (List.mem_append_right _ (List.mem_of_getElem? (i := 4) rfl))))))) dX5_drawImplied_77 ?_
              refine lv_iload_n hx hb dX5_drawImplied_80 rfl (lv_at hl 0 rfl) ?_
              refine lv_iload_n hx hb dX5_drawImplied_81 rfl (lv_at hl 1 rfl) ?_
              refine xsT_131 hx hb hK hP hD hS (vp_in_iff.mpr (by have h9 : x14.toInt = ((x10.toInt * 10) + x13.toInt) := tx14; omega)) dX5_drawImplied_82 (fun H locs hP hD hS => ?_)
              have hI := xInv_c hI (k := 131) (j := (x14 : Int32).toNatClampNeg) (x := y1_1) (show (y1_1 : Int32).toInt = -9 ∨ (0 ≤ (y1_1 : Int32).toInt ∧ (y1_1 : Int32).toInt ≤ 199) from by omega)
              have hfc := fr_c hfc (k := 131) (j := (x14 : Int32).toNatClampNeg) (x := y1_1) (by decide +kernel)
              refine lv_aload_n hx hb dX5_drawImplied_83 rfl (lv_at hl 2 rfl) ?_
              refine xgT_R_leads hx hb hts (fun _ h => List.mem_cons_of_mem _ (List.mem_append_left _ (List.mem_append_left _ (List.mem_append_right _ h)))) hown hK hP (hts (.fieldLink RX5 9 "TalePlay$Roads" "leads" "[I") (List.mem_cons_of_mem _ (List.mem_append_left _ (List.mem_append_left _ (List.mem_append_left _ (List.mem_append_right _ (List.mem_of_getElem? (i := 5) rfl))))))) dX5_drawImplied_84 ?_
              refine lv_iload_n hx hb dX5_drawImplied_87 rfl (lv_at hl 0 rfl) ?_
              refine lv_aload_n hx hb dX5_drawImplied_88 rfl (lv_at hl 2 rfl) ?_
              refine xgT_R_book hx hb hts (fun _ h => List.mem_cons_of_mem _ (List.mem_append_left _ (List.mem_append_left _ (List.mem_append_right _ h)))) hown hK hP (hts (.fieldLink RX5 43 "TalePlay$Roads" "book" "LTalePlay$Book;") (List.mem_cons_of_mem _ (List.mem_append_left _ (List.mem_append_left _ (List.mem_append_left _ (List.mem_append_left _ (List.mem_of_getElem? (i := 0) rfl))))))) dX5_drawImplied_89 ?_
              refine xgT_B_as hx hb hts (fun _ h => List.mem_cons_of_mem _ (List.mem_append_left _ (List.mem_append_right _ h))) hown hK hP (hts (.fieldLink RX5 82 "TalePlay$Book" "as" "[I") (List.mem_cons_of_mem _ (List.mem_append_left _ (List.mem_append_left _ (List.mem_append_left _ (List.mem_append_right _ (List.mem_of_getElem? (i := 6) rfl))))))) dX5_drawImplied_92 ?_
              refine lv_iload_n hx hb dX5_drawImplied_95 rfl (lv_at hl 1 rfl) ?_
              refine xlT_114 hx hb hK hP (vp_in_iff.mpr (by have h9 : y1_1.toInt = y1_1.toInt := rfl; omega)) dX5_drawImplied_96 (fun x18 ex18 => ?_)
              have rx18 : 0 ≤ x18.toInt ∧ x18.toInt ≤ 29 := by rw [ex18]; exact hI.2 114 _
              have gx18 : (c 114 (y1_1 : Int32).toNatClampNeg).toInt = x18.toInt := by rw [show x18 = (updA c1 131 (x14 : Int32).toNatClampNeg y1_1) 114 (y1_1 : Int32).toNatClampNeg from ex18, show (updA c1 131 (x14 : Int32).toNatClampNeg y1_1) 114 = c 114 from hfc 114 (by decide +kernel)]
              refine xsT_129 hx hb hK hP hD hS (vp_in_iff.mpr (by have h9 : x14.toInt = ((x10.toInt * 10) + x13.toInt) := tx14; omega)) dX5_drawImplied_97 (fun H locs hP hD hS => ?_)
              have hI := xInv_c hI (k := 129) (j := (x14 : Int32).toNatClampNeg) (x := x18) (show (x18 : Int32).toInt = -9 ∨ (0 ≤ (x18 : Int32).toInt ∧ (x18 : Int32).toInt ≤ 29) from by omega)
              have hfc := fr_c hfc (k := 129) (j := (x14 : Int32).toNatClampNeg) (x := x18) (by decide +kernel)
              refine lv_aload_n hx hb dX5_drawImplied_98 rfl (lv_at hl 2 rfl) ?_
              refine xgT_R_implied hx hb hts (fun _ h => List.mem_cons_of_mem _ (List.mem_append_left _ (List.mem_append_left _ (List.mem_append_right _ h)))) hown hK hP (hts (.fieldLink RX5 21 "TalePlay$Roads" "implied" "[I") (List.mem_cons_of_mem _ (List.mem_append_left _ (List.mem_append_left _ (List.mem_append_left _ (List.mem_append_right _ (List.mem_of_getElem? (i := 7) rfl))))))) dX5_drawImplied_99 ?_
              refine lv_iload_n hx hb dX5_drawImplied_102 rfl (lv_at hl 0 rfl) ?_
              refine lv_iconst (v := 1) hx hb dX5_drawImplied_103 (by decide +kernel) ?_
              refine xsT_132 hx hb hK hP hD hS (vp_in_iff.mpr (by have h9 : x14.toInt = ((x10.toInt * 10) + x13.toInt) := tx14; omega)) dX5_drawImplied_104 (fun H locs hP hD hS => ?_)
              have hI := xInv_c hI (k := 132) (j := (x14 : Int32).toNatClampNeg) (x := 1) (show 0 ≤ (1 : Int32).toInt ∧ (1 : Int32).toInt ≤ 1 from by have h9 : (1 : Int32).toInt = 1 := (by decide +kernel); omega)
              have hfc := fr_c hfc (k := 132) (j := (x14 : Int32).toNatClampNeg) (x := 1) (by decide +kernel)
              obtain ⟨x19, ex19⟩ : ∃ y : Int32, y = y1_1 + 1 := ⟨_, rfl⟩
              have tx19 := ti_add (a := y1_1.toInt) (b := 1) ex19 rfl (by decide +kernel) (by omega) (by omega)
              refine lv_iinc (v := x19) (lv' := [(1, .int x19), (2, .int x14), (0, .ref (a 128))]) hx hb dX5_drawImplied_105 hl (k := 1) rfl (by rw [ex19]; rfl) (by decide +kernel) rfl (fun ls hl => ?_)
              refine lv_goto (tgt := 2) hx hb dX5_drawImplied_108 (by decide +kernel) ?_
              exact ih1 i1 q1 (updA (updA (updA c1 131 (x14 : Int32).toNatClampNeg y1_1) 129 (x14 : Int32).toNatClampNeg x18) 132 (x14 : Int32).toNatClampNeg 1) d1 x19 hI (fr_w hfi (by decide +kernel)) (fr_w hfc (by decide +kernel)) (show 0 ≤ x19.toInt ∧ x19.toInt ≤ 200 ∧ x19.toInt ≤ (i 124).toInt from by have h50 : x19.toInt = (y1_1.toInt + 1) := tx19; have h51 : x14.toInt = ((x10.toInt * 10) + x13.toInt) := tx14; omega) (show D2 (zX (c 106) (c 108) (i 111).toInt) (c 113) (c 114) (c 115) (c 116) (c 117) x19.toInt.toNat (c 131) (c 129) ((updA (updA (updA c1 131 (x14 : Int32).toNatClampNeg y1_1) 129 (x14 : Int32).toNatClampNeg x18) 132 (x14 : Int32).toNatClampNeg 1) 131) ((updA (updA (updA c1 131 (x14 : Int32).toNatClampNeg y1_1) 129 (x14 : Int32).toNatClampNeg x18) 132 (x14 : Int32).toNatClampNeg 1) 129) ((updA (updA (updA c1 131 (x14 : Int32).toNatClampNeg y1_1) 129 (x14 : Int32).toNatClampNeg x18) 132 (x14 : Int32).toNatClampNeg 1) 132) from D2_s hz1_0 (by omega) (by omega) (by omega) (by omega) (by rw [gx12]; omega) (by omega) (by omega) (Int32.toInt_inj.mp gx18.symm) tx19) (by have h50 : x19.toInt = (y1_1.toInt + 1) := tx19; have h51 : x14.toInt = ((x10.toInt * 10) + x13.toInt) := tx14; omega) _ _ _ hP hD hS (lv_sub hl [0, 2] rfl)
  exact lp1 _ i q c d (0 : Int32) hI (fr_w hfi (by decide +kernel)) (fr_w hfc (by decide +kernel)) (show 0 ≤ (0 : Int32).toInt ∧ (0 : Int32).toInt ≤ 200 ∧ (0 : Int32).toInt ≤ (i 124).toInt from by have h50 : (0 : Int32).toInt = 0 := (by decide +kernel); omega) (show D2 (zX (c 106) (c 108) (i 111).toInt) (c 113) (c 114) (c 115) (c 116) (c 117) (0 : Int32).toInt.toNat (c 131) (c 129) (c 131) (c 129) (c 132) from D2_0 (by decide +kernel) hs_V) (Nat.lt_succ_self _) _ _ _ hP hD hS (lv_sub hl [0, 1] rfl)

def wm_X5_drawThroughDoors_e : List Cond := .code yX5_drawThroughDoors cX5_drawThroughDoors 4 none :: (([.fieldLink RX5 15 "TalePlay$Roads" "doors" "[I", .fieldLink RX5 24 "TalePlay$Roads" "firstSides" "[I", .fieldLink RX5 9 "TalePlay$Roads" "leads" "[I", .fieldLink RX5 27 "TalePlay$Roads" "secondSides" "[I"] : List Cond) ++ wsX50)
set_option maxHeartbeats 4000000 in
set_option maxRecDepth 100000 in
theorem x_X5_drawThroughDoors_e (l : Launch) (D : va_G) (sz : Nat) (sk : Value) (a : Nat → Nat) (t : Nat → ClassId) (i : Nat → Int32) (q : Int64) (c : Nat → Nat → Int32) (d : Nat → Nat → Int64) (hI : xInv i c) : Met l yX5_drawThroughDoors wm_X5_drawThroughDoors_e ({ frames := 0, cells := 0, slots := 0, locals := 0 }) (va_Pc [.ref (a 128)] (yB (a 186) D sz (xwT sk a t i q c d) (xtT t))) (va_Qv (fun (u : MS) => True ∧ xInv u.1 u.2.2.1 ∧ (∀ k, k ∉ ([] : List Nat) → u.1 k = i k) ∧ (∀ k, k ∉ ([129] : List Nat) → u.2.2.1 k = c k) ∧ (D3 300 (c 129) (c 130) (c 133) (c 134) (u.2.2.1 129))) (oC D (va_A (xwT sk a t i q c d) sz) (fun u : MS => xwT sk a t u.1 u.2.1 u.2.2.1 u.2.2.2) (fun _ => [])) (va_A (xwT sk a t i q c d) sz)) 0 0 (va_A (xwT sk a t i q c d) sz) := by
  refine Met.ofW (cc := cX5_drawThroughDoors) (maxL := 4) (ret := none) (by decide +kernel) rfl ?_
  intro p e s m args below meth cd s₁ B hml hv
  obtain ⟨rfl, ⟨hsz, hP, hK, hD0⟩, hN, hZ, hBW⟩ := hv
  have hx := B.exec
  have hb := B.bytes
  have hr := B.returns
  have hts := atoms_spec (ws := wm_X5_drawThroughDoors_e) B.pre
  have hown : s.vm.findClass RX5 = some m.cls := findClass_of_methodNamed B.named
  have hlocks := B.notSynchronized
  subst hsz
  have hD := hD0.self (sz := s.heap.size)
  have hZ := xZ_A hZ hP hBW
  generalize hAe : va_A (xwT sk a t i q c d) s.heap.size = A at hD hZ ⊢
  have hA : ∀ q : Nat, s.heap.size ≤ q → A q := fun q h => by rw [← hAe]; exact Or.inr h
  have hS : va_S A s.heap s.heap [] := va_S.rf
  have hfi : ∀ k, k ∉ ([] : List Nat) → i k = i k := fun _ _ => rfl
  have hfc : ∀ k, k ∉ ([] : List Nat) → c k = c k := fun _ _ => rfl
  have hl := lv_entry ([.ref (a 128)]) (n := 4) (Nat.le_of_ble_eq_true rfl)
  rw [lg_entry_eq]
  generalize (lg_sl ([.ref (a 128)]) ++ List.replicate (4 - (lg_sl ([.ref (a 128)])).length) Slot.unset).toArray = ls at hl ⊢
  have hl : lv_has ls 4 [(0, .ref (a 128))] := hl
  have hI0 := hI
  refine lv_iconst (v := 0) hx hb dX5_drawThroughDoors_0 (by decide +kernel) ?_
  refine lv_istore_n (lv' := [(1, .int 0), (0, .ref (a 128))]) hx hb dX5_drawThroughDoors_1 rfl hl (by decide +kernel) rfl (fun ls hl => ?_)
  have lp1 : ∀ (fu : Nat) (i1 : Nat → Int32) (q1 : Int64) (c1 : Nat → Nat → Int32) (d1 : Nat → Nat → Int64) (y1_1 : Int32), xInv i1 c1 → (∀ k, k ∉ ([] : List Nat) → i1 k = i k) → (∀ k, k ∉ ([129] : List Nat) → c1 k = c k) → (0 ≤ y1_1.toInt ∧ y1_1.toInt ≤ 300) → (D3 y1_1.toInt.toNat (c 129) (c 130) (c 133) (c 134) (c1 129)) → (300 - y1_1.toInt).toNat < fu → ∀ (H : Heap) (locs : List Loc) (ls : Array Slot), va_P D vwCl (xwT sk a t i1 q1 c1 d1) H → va_D A (xwT sk a t i1 q1 c1 d1) → va_S A s.heap H locs → lv_has ls 4 [(1, .int y1_1), (0, .ref (a 128))] → W p l e (headSpec wm_X5_drawThroughDoors_e ({ frames := 0, cells := 0, slots := 0, locals := 0 })).room s m ([.ref (a 128)] : List Value).toArray below meth cd H locs 0 0 (MQ below (va_Qv (fun (u : MS) => True ∧ xInv u.1 u.2.2.1 ∧ (∀ k, k ∉ ([] : List Nat) → u.1 k = i k) ∧ (∀ k, k ∉ ([129] : List Nat) → u.2.2.1 k = c k) ∧ (D3 300 (c 129) (c 130) (c 133) (c 134) (u.2.2.1 129))) (oC D A (fun u : MS => xwT sk a t u.1 u.2.1 u.2.2.1 u.2.2.2) (fun _ => [])) A) ([.ref (a 128)] : List Value).toArray s 0 0 A) (F0 m 2 ls []) := by
    intro fu
    induction fu with
    | zero => intro i1 q1 c1 d1 y1_1 hI hfi hfc hy1_1 hz1_0 hm; exact absurd hm (Nat.not_lt_zero _)
    | succ fu ih =>
      intro i1 q1 c1 d1 y1_1 hI hfi hfc hy1_1 hz1_0 hm H locs ls hP hD hS hl
      have ih1 := ih
      refine lv_iload_n hx hb dX5_drawThroughDoors_2 rfl (lv_at hl 0 rfl) ?_
      refine lv_aload_n hx hb dX5_drawThroughDoors_3 rfl (lv_at hl 1 rfl) ?_
      refine xgT_R_doors hx hb hts (fun _ h => List.mem_cons_of_mem _ (List.mem_append_right _ h)) hown hK hP (hts (.fieldLink RX5 15 "TalePlay$Roads" "doors" "[I") (List.mem_cons_of_mem _ (List.mem_append_left _ (List.mem_of_getElem? (i := 0) rfl)))) dX5_drawThroughDoors_4 ?_
      refine xnT_130 hx hb hK hP dX5_drawThroughDoors_7 ?_
      refine lv_icmp_ge (tgt := 74) hx hb dX5_drawThroughDoors_8 (by decide +kernel) (fun c2 => ?_) (fun c2 => ?_)
      · have f2 := (ti_le (a := 300) (b := y1_1.toInt) (by decide +kernel) rfl).mp c2
        exact rw_vret (i1, q1, c1, d1) hx hb hr hlocks hS (hK.sub (tys' := []) [] rfl) hP hD dX5_drawThroughDoors_74 ⟨trivial, hI, fr_w hfi (by decide +kernel), fr_w hfc (by decide +kernel), (show D3 300 (c 129) (c 130) (c 133) (c 134) (c1 129) from by have h9 := hz1_0; rw [show y1_1.toInt.toNat = 300 by omega] at h9; exact h9)⟩
      · have f2 := mt (ti_le (a := 300) (b := y1_1.toInt) (by decide +kernel) rfl).mpr c2
        refine lv_aload_n hx hb dX5_drawThroughDoors_11 rfl (lv_at hl 1 rfl) ?_
        refine xgT_R_doors hx hb hts (fun _ h => List.mem_cons_of_mem _ (List.mem_append_right _ h)) hown hK hP (hts (.fieldLink RX5 15 "TalePlay$Roads" "doors" "[I") (List.mem_cons_of_mem _ (List.mem_append_left _ (List.mem_of_getElem? (i := 0) rfl)))) dX5_drawThroughDoors_12 ?_
        refine lv_iload_n hx hb dX5_drawThroughDoors_15 rfl (lv_at hl 0 rfl) ?_
        refine xlT_130 hx hb hK hP (vp_in_iff.mpr (by have h9 : y1_1.toInt = y1_1.toInt := rfl; omega)) dX5_drawThroughDoors_16 (fun x3 ex3 => ?_)
        have rx3 : x3.toInt = -9 ∨ (0 ≤ x3.toInt ∧ x3.toInt ≤ 29) := by rw [ex3]; exact hI.2 130 _
        have gx3 : (c 130 (y1_1 : Int32).toNatClampNeg).toInt = x3.toInt := by rw [show x3 = c1 130 (y1_1 : Int32).toNatClampNeg from ex3, show c1 130 = c 130 from hfc 130 (by decide +kernel)]
        refine lv_istore_n (lv' := [(2, .int x3), (1, .int y1_1), (0, .ref (a 128))]) hx hb dX5_drawThroughDoors_17 rfl hl (by decide +kernel) rfl (fun ls hl => ?_)
        refine lv_iload_n hx hb dX5_drawThroughDoors_18 rfl (lv_at hl 0 rfl) ?_
        refine lv_bipush (v := (-9)) hx hb dX5_drawThroughDoors_19 (by decide +kernel) ?_
        refine lv_icmp_eq (tgt := 68) hx hb dX5_drawThroughDoors_21 (by decide +kernel) (fun c4 => ?_) (fun c4 => ?_)
        · have f4 := (ti_eq (a := x3.toInt) (b := (-9)) rfl (by decide +kernel)).mp c4
          obtain ⟨x5, ex5⟩ : ∃ y : Int32, y = y1_1 + 1 := ⟨_, rfl⟩
          have tx5 := ti_add (a := y1_1.toInt) (b := 1) ex5 rfl (by decide +kernel) (by omega) (by omega)
          refine lv_iinc (v := x5) (lv' := [(1, .int x5), (2, .int x3), (0, .ref (a 128))]) hx hb dX5_drawThroughDoors_68 hl (k := 1) rfl (by rw [ex5]; rfl) (by decide +kernel) rfl (fun ls hl => ?_)
          refine lv_goto (tgt := 2) hx hb dX5_drawThroughDoors_71 (by decide +kernel) ?_
          exact ih1 i1 q1 c1 d1 x5 hI (fr_w hfi (by decide +kernel)) (fr_w hfc (by decide +kernel)) (show 0 ≤ x5.toInt ∧ x5.toInt ≤ 300 from by have h50 : x5.toInt = (y1_1.toInt + 1) := tx5; omega) (show D3 x5.toInt.toNat (c 129) (c 130) (c 133) (c 134) (c1 129) from D3_n hz1_0 (by omega) (by omega) tx5) (by have h50 : x5.toInt = (y1_1.toInt + 1) := tx5; omega) _ _ _ hP hD hS (lv_sub hl [0, 2] rfl)
        · have f4 := mt (ti_eq (a := x3.toInt) (b := (-9)) rfl (by decide +kernel)).mpr c4
          refine lv_aload_n hx hb dX5_drawThroughDoors_24 rfl (lv_at hl 2 rfl) ?_
          refine xgT_R_firstSides hx hb hts (fun _ h => List.mem_cons_of_mem _ (List.mem_append_right _ h)) hown hK hP (hts (.fieldLink RX5 24 "TalePlay$Roads" "firstSides" "[I") (List.mem_cons_of_mem _ (List.mem_append_left _ (List.mem_of_getElem? (i := 1) rfl)))) dX5_drawThroughDoors_25 ?_
          refine lv_iload_n hx hb dX5_drawThroughDoors_28 rfl (lv_at hl 0 rfl) ?_
          refine xlT_133 hx hb hK hP (vp_in_iff.mpr (by have h9 : x3.toInt = x3.toInt := rfl; omega)) dX5_drawThroughDoors_29 (fun x6 ex6 => ?_)
          have rx6 : x6.toInt = -9 ∨ (0 ≤ x6.toInt ∧ x6.toInt ≤ 29) := by rw [ex6]; exact hI.2 133 _
          have gx6 : (c 133 (x3 : Int32).toNatClampNeg).toInt = x6.toInt := by rw [show x6 = c1 133 (x3 : Int32).toNatClampNeg from ex6, show c1 133 = c 133 from hfc 133 (by decide +kernel)]
          refine lv_iload_n hx hb dX5_drawThroughDoors_30 rfl (lv_at hl 1 rfl) ?_
          refine lv_bipush (v := 10) hx hb dX5_drawThroughDoors_31 (by decide +kernel) ?_
          refine lv_idiv hx hb dX5_drawThroughDoors_33 (by decide +kernel) ?_
          refine lv_topi (fun x7 ex7 => ?_)
          have hdv := idiv10 (by omega) ex7
          refine lv_icmp_ne (tgt := 41) hx hb dX5_drawThroughDoors_34 (by decide +kernel) (fun c8 => ?_) (fun c8 => ?_)
          · have f8 := mt (ti_eq (a := x6.toInt) (b := x7.toInt) rfl rfl).mpr c8
            refine lv_iconst (v := 0) hx hb dX5_drawThroughDoors_41 (by decide +kernel) ?_
            refine lv_istore_n (lv' := [(3, .int 0), (2, .int x3), (1, .int y1_1), (0, .ref (a 128))]) hx hb dX5_drawThroughDoors_42 rfl hl (by decide +kernel) rfl (fun ls hl => ?_)
            refine lv_aload_n hx hb dX5_drawThroughDoors_43 rfl (lv_at hl 3 rfl) ?_
            refine xgT_R_leads hx hb hts (fun _ h => List.mem_cons_of_mem _ (List.mem_append_right _ h)) hown hK hP (hts (.fieldLink RX5 9 "TalePlay$Roads" "leads" "[I") (List.mem_cons_of_mem _ (List.mem_append_left _ (List.mem_of_getElem? (i := 2) rfl)))) dX5_drawThroughDoors_44 ?_
            refine lv_iload_n hx hb dX5_drawThroughDoors_47 rfl (lv_at hl 2 rfl) ?_
            refine lv_iload_n hx hb dX5_drawThroughDoors_48 rfl (lv_at hl 0 rfl) ?_
            refine lv_if_eq (tgt := 61) hx hb dX5_drawThroughDoors_49 (by decide +kernel) (fun _ => ?_) (fun q9 => absurd (by decide +kernel) q9)
            refine lv_aload_n hx hb dX5_drawThroughDoors_61 rfl (lv_at hl 3 rfl) ?_
            refine xgT_R_firstSides hx hb hts (fun _ h => List.mem_cons_of_mem _ (List.mem_append_right _ h)) hown hK hP (hts (.fieldLink RX5 24 "TalePlay$Roads" "firstSides" "[I") (List.mem_cons_of_mem _ (List.mem_append_left _ (List.mem_of_getElem? (i := 1) rfl)))) dX5_drawThroughDoors_62 ?_
            refine lv_iload_n hx hb dX5_drawThroughDoors_65 rfl (lv_at hl 1 rfl) ?_
            refine xlT_133 hx hb hK hP (vp_in_iff.mpr (by have h9 : x3.toInt = x3.toInt := rfl; omega)) dX5_drawThroughDoors_66 (fun x9 ex9 => ?_)
            have rx9 : x9.toInt = -9 ∨ (0 ≤ x9.toInt ∧ x9.toInt ≤ 29) := by rw [ex9]; exact hI.2 133 _
            have gx9 : (c 133 (x3 : Int32).toNatClampNeg).toInt = x9.toInt := by rw [show x9 = c1 133 (x3 : Int32).toNatClampNeg from ex9, show c1 133 = c 133 from hfc 133 (by decide +kernel)]
            refine xsT_129 hx hb hK hP hD hS (vp_in_iff.mpr (by have h9 : y1_1.toInt = y1_1.toInt := rfl; omega)) dX5_drawThroughDoors_67 (fun H locs hP hD hS => ?_)
            have hI := xInv_c hI (k := 129) (j := (y1_1 : Int32).toNatClampNeg) (x := x9) (show (x9 : Int32).toInt = -9 ∨ (0 ≤ (x9 : Int32).toInt ∧ (x9 : Int32).toInt ≤ 29) from by omega)
            have hfc := fr_c hfc (k := 129) (j := (y1_1 : Int32).toNatClampNeg) (x := x9) (by decide +kernel)
            obtain ⟨x10, ex10⟩ : ∃ y : Int32, y = y1_1 + 1 := ⟨_, rfl⟩
            have tx10 := ti_add (a := y1_1.toInt) (b := 1) ex10 rfl (by decide +kernel) (by omega) (by omega)
            refine lv_iinc (v := x10) (lv' := [(1, .int x10), (3, .int 0), (2, .int x3), (0, .ref (a 128))]) hx hb dX5_drawThroughDoors_68 hl (k := 2) rfl (by rw [ex10]; rfl) (by decide +kernel) rfl (fun ls hl => ?_)
            refine lv_goto (tgt := 2) hx hb dX5_drawThroughDoors_71 (by decide +kernel) ?_
            exact ih1 i1 q1 (updA c1 129 (y1_1 : Int32).toNatClampNeg x9) d1 x10 hI (fr_w hfi (by decide +kernel)) (fr_w hfc (by decide +kernel)) (show 0 ≤ x10.toInt ∧ x10.toInt ≤ 300 from by have h50 : x10.toInt = (y1_1.toInt + 1) := tx10; have h51 : (0 : Int32).toInt = 0 := (by decide +kernel); omega) (show D3 x10.toInt.toNat (c 129) (c 130) (c 133) (c 134) ((updA c1 129 (y1_1 : Int32).toNatClampNeg x9) 129) from D3_s hz1_0 (by omega) (thr_f (Int32.toInt_inj.mp gx3.symm) (by omega) (by omega) (by omega)) tx10) (by have h50 : x10.toInt = (y1_1.toInt + 1) := tx10; have h51 : (0 : Int32).toInt = 0 := (by decide +kernel); omega) _ _ _ hP hD hS (lv_sub hl [0, 3] rfl)
          · have f8 := (ti_eq (a := x6.toInt) (b := x7.toInt) rfl rfl).mp c8
            refine lv_iconst (v := 1) hx hb dX5_drawThroughDoors_37 (by decide +kernel) ?_
            refine lv_goto (tgt := 42) hx hb dX5_drawThroughDoors_38 (by decide +kernel) ?_
            refine lv_istore_n (lv' := [(3, .int 1), (2, .int x3), (1, .int y1_1), (0, .ref (a 128))]) hx hb dX5_drawThroughDoors_42 rfl hl (by decide +kernel) rfl (fun ls hl => ?_)
            refine lv_aload_n hx hb dX5_drawThroughDoors_43 rfl (lv_at hl 3 rfl) ?_
            refine xgT_R_leads hx hb hts (fun _ h => List.mem_cons_of_mem _ (List.mem_append_right _ h)) hown hK hP (hts (.fieldLink RX5 9 "TalePlay$Roads" "leads" "[I") (List.mem_cons_of_mem _ (List.mem_append_left _ (List.mem_of_getElem? (i := 2) rfl)))) dX5_drawThroughDoors_44 ?_
            refine lv_iload_n hx hb dX5_drawThroughDoors_47 rfl (lv_at hl 2 rfl) ?_
            refine lv_iload_n hx hb dX5_drawThroughDoors_48 rfl (lv_at hl 0 rfl) ?_
            refine lv_if_eq (tgt := 61) hx hb dX5_drawThroughDoors_49 (by decide +kernel) (fun q9 => absurd q9 (by decide +kernel)) (fun _ => ?_)
            refine lv_aload_n hx hb dX5_drawThroughDoors_52 rfl (lv_at hl 3 rfl) ?_
            refine xgT_R_secondSides hx hb hts (fun _ h => List.mem_cons_of_mem _ (List.mem_append_right _ h)) hown hK hP (hts (.fieldLink RX5 27 "TalePlay$Roads" "secondSides" "[I") (List.mem_cons_of_mem _ (List.mem_append_left _ (List.mem_of_getElem? (i := 3) rfl)))) dX5_drawThroughDoors_53 ?_
            refine lv_iload_n hx hb dX5_drawThroughDoors_56 rfl (lv_at hl 1 rfl) ?_
            refine xlT_134 hx hb hK hP (vp_in_iff.mpr (by have h9 : x3.toInt = x3.toInt := rfl; omega)) dX5_drawThroughDoors_57 (fun x11 ex11 => ?_)
            have rx11 : x11.toInt = -9 ∨ (0 ≤ x11.toInt ∧ x11.toInt ≤ 29) := by rw [ex11]; exact hI.2 134 _
            have gx11 : (c 134 (x3 : Int32).toNatClampNeg).toInt = x11.toInt := by rw [show x11 = c1 134 (x3 : Int32).toNatClampNeg from ex11, show c1 134 = c 134 from hfc 134 (by decide +kernel)]
            refine lv_goto (tgt := 67) hx hb dX5_drawThroughDoors_58 (by decide +kernel) ?_
            refine xsT_129 hx hb hK hP hD hS (vp_in_iff.mpr (by have h9 : y1_1.toInt = y1_1.toInt := rfl; omega)) dX5_drawThroughDoors_67 (fun H locs hP hD hS => ?_)
            have hI := xInv_c hI (k := 129) (j := (y1_1 : Int32).toNatClampNeg) (x := x11) (show (x11 : Int32).toInt = -9 ∨ (0 ≤ (x11 : Int32).toInt ∧ (x11 : Int32).toInt ≤ 29) from by omega)
            have hfc := fr_c hfc (k := 129) (j := (y1_1 : Int32).toNatClampNeg) (x := x11) (by decide +kernel)
            obtain ⟨x12, ex12⟩ : ∃ y : Int32, y = y1_1 + 1 := ⟨_, rfl⟩
            have tx12 := ti_add (a := y1_1.toInt) (b := 1) ex12 rfl (by decide +kernel) (by omega) (by omega)
            refine lv_iinc (v := x12) (lv' := [(1, .int x12), (3, .int 1), (2, .int x3), (0, .ref (a 128))]) hx hb dX5_drawThroughDoors_68 hl (k := 2) rfl (by rw [ex12]; rfl) (by decide +kernel) rfl (fun ls hl => ?_)
            refine lv_goto (tgt := 2) hx hb dX5_drawThroughDoors_71 (by decide +kernel) ?_
            exact ih1 i1 q1 (updA c1 129 (y1_1 : Int32).toNatClampNeg x11) d1 x12 hI (fr_w hfi (by decide +kernel)) (fr_w hfc (by decide +kernel)) (show 0 ≤ x12.toInt ∧ x12.toInt ≤ 300 from by have h50 : x12.toInt = (y1_1.toInt + 1) := tx12; have h51 : (1 : Int32).toInt = 1 := (by decide +kernel); omega) (show D3 x12.toInt.toNat (c 129) (c 130) (c 133) (c 134) ((updA c1 129 (y1_1 : Int32).toNatClampNeg x11) 129) from D3_s hz1_0 (by omega) (thr_f (Int32.toInt_inj.mp gx3.symm) (by omega) (by omega) (by omega)) tx12) (by have h50 : x12.toInt = (y1_1.toInt + 1) := tx12; have h51 : (1 : Int32).toInt = 1 := (by decide +kernel); omega) _ _ _ hP hD hS (lv_sub hl [0, 3] rfl)
  exact lp1 _ i q c d (0 : Int32) hI (fr_w hfi (by decide +kernel)) (fr_w hfc (by decide +kernel)) (show 0 ≤ (0 : Int32).toInt ∧ (0 : Int32).toInt ≤ 300 from by have h50 : (0 : Int32).toInt = 0 := (by decide +kernel); omega) (show D3 (0 : Int32).toInt.toNat (c 129) (c 130) (c 133) (c 134) (c 129) from D3_0 (by decide +kernel)) (Nat.lt_succ_self _) _ _ _ hP hD hS (lv_sub hl [0, 1] rfl)

