def wm_X1_isWellFormed_e : List Cond := .code yX1_isWellFormed cX1_isWellFormed 5 (some .boolean) :: (([.fieldLink RX1 43 "TalePlay$Book" "world" "LTalePlay$World;", .methodLink RX1 62 yX10_hasObject, .instanceMethod yX10_hasObject, .selects RX10 yX10_hasObject yX10_hasObject, .initialized RX10, .code yX10_hasObject cX10_hasObject 2 (some .boolean), .fieldLink RX10 37 "TalePlay$World" "objects" "I", .code yX11_isBelow cX11_isBelow 2 (some .boolean), .initialized RX11, .static yX11_isBelow] : List Cond) ++ wsX10 ++ wsX100)
set_option maxRecDepth 20000 in
theorem gm_X1_isWellFormed_e_X10_hasObject_62 : GoodIn wm_X1_isWellFormed_e (wsV RX1 62 RX10 yX10_hasObject wm_X10_hasObject) := goodIn_w (List.forall_mem_append.mpr ⟨List.forall_mem_cons.mpr ⟨List.mem_cons_of_mem _ (List.mem_append_left _ (List.mem_append_left _ (List.mem_of_getElem? (i := 1) rfl))), List.forall_mem_cons.mpr ⟨List.mem_cons_of_mem _ (List.mem_append_left _ (List.mem_append_left _ (List.mem_of_getElem? (i := 2) rfl))), List.forall_mem_cons.mpr ⟨List.mem_cons_of_mem _ (List.mem_append_left _ (List.mem_append_left _ (List.mem_of_getElem? (i := 3) rfl))), List.forall_mem_cons.mpr ⟨List.mem_cons_of_mem _ (List.mem_append_left _ (List.mem_append_left _ (List.mem_of_getElem? (i := 4) rfl))), (fun _ h => absurd h List.not_mem_nil)⟩⟩⟩⟩, List.forall_mem_cons.mpr ⟨List.mem_cons_of_mem _ (List.mem_append_left _ (List.mem_append_left _ (List.mem_of_getElem? (i := 5) rfl))), List.forall_mem_append.mpr ⟨List.forall_mem_cons.mpr ⟨List.mem_cons_of_mem _ (List.mem_append_left _ (List.mem_append_left _ (List.mem_of_getElem? (i := 6) rfl))), (fun _ h => absurd h List.not_mem_nil)⟩, (fun _ h => List.mem_cons_of_mem _ (List.mem_append_right _ h))⟩⟩⟩) (by decide +kernel)
set_option maxRecDepth 20000 in
theorem gm_X1_isWellFormed_e_X11_isBelow_68 : GoodIn wm_X1_isWellFormed_e wm_X11_isBelow := goodIn_w (List.forall_mem_cons.mpr ⟨List.mem_cons_of_mem _ (List.mem_append_left _ (List.mem_append_left _ (List.mem_of_getElem? (i := 7) rfl))), (fun _ h => absurd h List.not_mem_nil)⟩) (by decide +kernel)
set_option maxHeartbeats 4000000 in
set_option maxRecDepth 100000 in
theorem x_X1_isWellFormed_e (l : Launch) (D : va_G) (sz : Nat) (sk : Value) (a : Nat → Nat) (t : Nat → ClassId) (i : Nat → Int32) (q : Int64) (c : Nat → Nat → Int32) (d : Nat → Nat → Int64) (f : Int32) (w1 : Int32) (w2 : Int32) (w3 : Int32) (hI : xInv i c) : Met l yX1_isWellFormed wm_X1_isWellFormed_e ({ frames := 1, cells := 0, slots := 0, locals := 21 }) (va_Pc [.ref (a 112), .int f, .int w1, .int w2, .int w3] (yA (a 186) D sz (xwB sk a t i q c d) (xtB t))) (va_Qi (fun (r : Int32) (_ : Unit) => ((0 ≤ r.toInt ∧ r.toInt ≤ 1) ∧ (Sm r (WF f.toInt w1.toInt w2.toInt w3.toInt (i 111).toInt)))) oA (ro sz)) 0 0 (ro sz) := by
  refine Met.ofW (cc := cX1_isWellFormed) (maxL := 5) (ret := (some .boolean)) (by decide +kernel) rfl ?_
  intro p e s m args below meth cd s₁ B hml hv
  obtain ⟨rfl, ⟨hsz, hP, hK⟩, hN, hZ⟩ := hv
  have hx := B.exec
  have hb := B.bytes
  have hr := B.returns
  have hts := atoms_spec (ws := wm_X1_isWellFormed_e) B.pre
  have hown : s.vm.findClass RX1 = some m.cls := findClass_of_methodNamed B.named
  have hlocks := B.notSynchronized
  subst hsz
  have hA : ∀ q : Nat, s.heap.size ≤ q → ro s.heap.size q := fun _ h => h
  have hS : va_S (ro s.heap.size) s.heap s.heap [] := va_S.rf
  have hl := lv_entry ([.ref (a 112), .int f, .int w1, .int w2, .int w3]) (n := 5) (Nat.le_of_ble_eq_true rfl)
  rw [lg_entry_eq]
  generalize (lg_sl ([.ref (a 112), .int f, .int w1, .int w2, .int w3]) ++ List.replicate (5 - (lg_sl ([.ref (a 112), .int f, .int w1, .int w2, .int w3])).length) Slot.unset).toArray = ls at hl ⊢
  have hl : lv_has ls 5 [(0, .ref (a 112)), (1, .int f), (2, .int w1), (3, .int w2), (4, .int w3)] := hl
  have rb111_i : 0 ≤ (i 111).toInt ∧ (i 111).toInt ≤ 30 := hI.1 111
  refine lv_iload_n hx hb dX1_isWellFormed_0 rfl (lv_at hl 1 rfl) ?_
  refine lv_if_lt (tgt := 21) hx hb dX1_isWellFormed_1 (by decide +kernel) (fun c1 => ?_) (fun c1 => ?_)
  · have f1 := (ti_lt (a := f.toInt) (b := 0) rfl (by decide +kernel)).mp c1
    refine lv_iconst (v := 0) hx hb dX1_isWellFormed_21 (by decide +kernel) ?_
    exact ro_zret hx hb hr hlocks hS rfl dX1_isWellFormed_22 ⟨(show 0 ≤ (0 : Int32).toInt ∧ (0 : Int32).toInt ≤ 1 from by decide +kernel), (show Sm (0 : Int32) (WF f.toInt w1.toInt w2.toInt w3.toInt (i 111).toInt) from sm_0 (by unfold WF; omega))⟩
  · have f1 := mt (ti_lt (a := f.toInt) (b := 0) rfl (by decide +kernel)).mpr c1
    refine lv_iload_n hx hb dX1_isWellFormed_4 rfl (lv_at hl 1 rfl) ?_
    refine lv_bipush (v := 7) hx hb dX1_isWellFormed_5 (by decide +kernel) ?_
    refine lv_icmp_gt (tgt := 21) hx hb dX1_isWellFormed_7 (by decide +kernel) (fun c2 => ?_) (fun c2 => ?_)
    · have f2 := (ti_lt (a := 7) (b := f.toInt) (by decide +kernel) rfl).mp c2
      refine lv_iconst (v := 0) hx hb dX1_isWellFormed_21 (by decide +kernel) ?_
      exact ro_zret hx hb hr hlocks hS rfl dX1_isWellFormed_22 ⟨(show 0 ≤ (0 : Int32).toInt ∧ (0 : Int32).toInt ≤ 1 from by decide +kernel), (show Sm (0 : Int32) (WF f.toInt w1.toInt w2.toInt w3.toInt (i 111).toInt) from sm_0 (by unfold WF; omega))⟩
    · have f2 := mt (ti_lt (a := 7) (b := f.toInt) (by decide +kernel) rfl).mpr c2
      refine lv_aload_n hx hb dX1_isWellFormed_10 rfl (lv_at hl 0 rfl) ?_
      refine xgB_B_world hx hb hts (fun _ h => List.mem_cons_of_mem _ (List.mem_append_left _ (List.mem_append_right _ h))) hown hK hP (hts (.fieldLink RX1 43 "TalePlay$Book" "world" "LTalePlay$World;") (List.mem_cons_of_mem _ (List.mem_append_left _ (List.mem_append_left _ (List.mem_of_getElem? (i := 0) rfl))))) dX1_isWellFormed_11 ?_
      refine lv_iload_n hx hb dX1_isWellFormed_14 rfl (lv_at hl 2 rfl) ?_
      refine ro_calli (va_runV (As := [.int w1]) (rest := []) ⟨hx, hb, hml, hown, hts⟩ (x_X10_hasObject l D s.heap.size .null a t i q c d w1 hI ) (cwV 1 hts gm_X1_isWellFormed_e_X10_hasObject_62 rfl rfl rfl (by decide +kernel) ⟨Nat.le_of_ble_eq_true rfl, Nat.le_of_ble_eq_true rfl⟩) (yA_V hN (xZ_k hZ hS hA) (xkB_W hK) (xuB_W (sk := sk) hP) (ci := 10) (q0 := 0) rfl rfl) rfl rfl hl.1 rfl (lv_room (Nat.le_of_ble_eq_true rfl)) dX1_isWellFormed_15 ⟨Nat.le_of_ble_eq_true rfl, Nat.le_of_ble_eq_true rfl⟩) hS hA hP (fun r3 u3 H locs hw3 hP hS => ?_)
      have hw3 : r3 = if (0 ≤ w1.toInt ∧ w1.toInt < (i 111).toInt) then 1 else 0 := hw3
      refine lv_if_ne (tgt := 23) hx hb dX1_isWellFormed_18 (by decide +kernel) (fun c4 => ?_) (fun c4 => ?_)
      · have f4 := fl_t hw3 c4
        refine lv_iload_n hx hb dX1_isWellFormed_23 rfl (lv_at hl 1 rfl) ?_
        refine lv_bipush (v := 6) hx hb dX1_isWellFormed_24 (by decide +kernel) ?_
        refine lv_icmp_ne (tgt := 55) hx hb dX1_isWellFormed_26 (by decide +kernel) (fun c5 => ?_) (fun c5 => ?_)
        · have f5 := mt (ti_eq (a := f.toInt) (b := 6) rfl (by decide +kernel)).mpr c5
          refine lv_aload_n hx hb dX1_isWellFormed_55 rfl (lv_at hl 0 rfl) ?_
          refine xgB_B_world hx hb hts (fun _ h => List.mem_cons_of_mem _ (List.mem_append_left _ (List.mem_append_right _ h))) hown hK hP (hts (.fieldLink RX1 43 "TalePlay$Book" "world" "LTalePlay$World;") (List.mem_cons_of_mem _ (List.mem_append_left _ (List.mem_append_left _ (List.mem_of_getElem? (i := 0) rfl))))) dX1_isWellFormed_56 ?_
          refine lv_iload_n hx hb dX1_isWellFormed_59 rfl (lv_at hl 3 rfl) ?_
          refine ro_calli (va_runV (As := [.int w2]) (rest := []) ⟨hx, hb, hml, hown, hts⟩ (x_X10_hasObject l D H.size .null a t i q c d w2 hI ) (cwV 1 hts gm_X1_isWellFormed_e_X10_hasObject_62 rfl rfl rfl (by decide +kernel) ⟨Nat.le_of_ble_eq_true rfl, Nat.le_of_ble_eq_true rfl⟩) (yA_V hN (xZ_k hZ hS hA) (xkB_W hK) (xuB_W (sk := sk) hP) (ci := 10) (q0 := 0) rfl rfl) rfl rfl hl.1 rfl (lv_room (Nat.le_of_ble_eq_true rfl)) dX1_isWellFormed_60 ⟨Nat.le_of_ble_eq_true rfl, Nat.le_of_ble_eq_true rfl⟩) hS hA hP (fun r6 u6 H locs hw6 hP hS => ?_)
          have hw6 : r6 = if (0 ≤ w2.toInt ∧ w2.toInt < (i 111).toInt) then 1 else 0 := hw6
          refine lv_if_eq (tgt := 85) hx hb dX1_isWellFormed_63 (by decide +kernel) (fun c7 => ?_) (fun c7 => ?_)
          · have f7 := fl_f hw6 c7
            refine lv_iconst (v := 0) hx hb dX1_isWellFormed_85 (by decide +kernel) ?_
            exact ro_zret hx hb hr hlocks hS rfl dX1_isWellFormed_86 ⟨(show 0 ≤ (0 : Int32).toInt ∧ (0 : Int32).toInt ≤ 1 from by decide +kernel), (show Sm (0 : Int32) (WF f.toInt w1.toInt w2.toInt w3.toInt (i 111).toInt) from sm_0 (by unfold WF; omega))⟩
          · have f7 := fl_t hw6 c7
            refine lv_iload_n hx hb dX1_isWellFormed_66 rfl (lv_at hl 1 rfl) ?_
            refine lv_iconst (v := 5) hx hb dX1_isWellFormed_67 (by decide +kernel) ?_
            refine lv_icmp_ne (tgt := 81) hx hb dX1_isWellFormed_68 (by decide +kernel) (fun c8 => ?_) (fun c8 => ?_)
            · have f8 := mt (ti_eq (a := f.toInt) (b := 5) rfl (by decide +kernel)).mpr c8
              refine lv_iconst (v := 1) hx hb dX1_isWellFormed_81 (by decide +kernel) ?_
              refine lv_goto (tgt := 86) hx hb dX1_isWellFormed_82 (by decide +kernel) ?_
              exact ro_zret hx hb hr hlocks hS rfl dX1_isWellFormed_86 ⟨(show 0 ≤ (1 : Int32).toInt ∧ (1 : Int32).toInt ≤ 1 from by decide +kernel), (show Sm (1 : Int32) (WF f.toInt w1.toInt w2.toInt w3.toInt (i 111).toInt) from sm_1 (by unfold WF; omega))⟩
            · have f8 := (ti_eq (a := f.toInt) (b := 5) rfl (by decide +kernel)).mp c8
              refine lv_iload hx hb dX1_isWellFormed_71 (lv_at hl 4 rfl) ?_
              refine lv_bipush (v := 10) hx hb dX1_isWellFormed_73 (by decide +kernel) ?_
              have hNn9 := hN.2.2.1
              have hPc := hP.sub (ws' := []) [] rfl
              have hKc := hK.sub (tys' := []) [] rfl
              refine ro_calli (va_runSN (As := [.int w3, .int 10]) (rest := []) ⟨hx, hb, hml, hown, hts⟩ (c_X11_isBelow l D H.size w3 10 w3.toInt 10 rfl (by decide +kernel)) ⟨va_cnB 2 hts gm_X1_isWellFormed_e_X11_isBelow_68 rfl rfl rfl hNn9 (hts (.initialized RX11) (List.mem_cons_of_mem _ (List.mem_append_left _ (List.mem_append_left _ (List.mem_of_getElem? (i := 8) rfl))))) (by decide +kernel) ⟨Nat.le_of_ble_eq_true rfl, Nat.le_of_ble_eq_true rfl⟩, (hts (.static yX11_isBelow) (List.mem_cons_of_mem _ (List.mem_append_left _ (List.mem_append_left _ (List.mem_of_getElem? (i := 9) rfl))))), trivial⟩ (pA_S hKc hPc) rfl rfl hl.1 rfl (lv_room (Nat.le_of_ble_eq_true rfl)) dX1_isWellFormed_75 ⟨Nat.le_of_ble_eq_true rfl, Nat.le_of_ble_eq_true rfl⟩) hS hA hP (fun r10 u10 H locs hw10 hP hS => ?_)
              have hw10 : r10 = if (0 ≤ w3.toInt ∧ w3.toInt < 10) then 1 else 0 := hw10
              refine lv_if_eq (tgt := 85) hx hb dX1_isWellFormed_78 (by decide +kernel) (fun c11 => ?_) (fun c11 => ?_)
              · have f11 := fl_f hw10 c11
                refine lv_iconst (v := 0) hx hb dX1_isWellFormed_85 (by decide +kernel) ?_
                exact ro_zret hx hb hr hlocks hS rfl dX1_isWellFormed_86 ⟨(show 0 ≤ (0 : Int32).toInt ∧ (0 : Int32).toInt ≤ 1 from by decide +kernel), (show Sm (0 : Int32) (WF f.toInt w1.toInt w2.toInt w3.toInt (i 111).toInt) from sm_0 (by unfold WF; omega))⟩
              · have f11 := fl_t hw10 c11
                refine lv_iconst (v := 1) hx hb dX1_isWellFormed_81 (by decide +kernel) ?_
                refine lv_goto (tgt := 86) hx hb dX1_isWellFormed_82 (by decide +kernel) ?_
                exact ro_zret hx hb hr hlocks hS rfl dX1_isWellFormed_86 ⟨(show 0 ≤ (1 : Int32).toInt ∧ (1 : Int32).toInt ≤ 1 from by decide +kernel), (show Sm (1 : Int32) (WF f.toInt w1.toInt w2.toInt w3.toInt (i 111).toInt) from sm_1 (by unfold WF; omega))⟩
        · have f5 := (ti_eq (a := f.toInt) (b := 6) rfl (by decide +kernel)).mp c5
          refine lv_iload_n hx hb dX1_isWellFormed_29 rfl (lv_at hl 3 rfl) ?_
          refine lv_bipush (v := 6) hx hb dX1_isWellFormed_30 (by decide +kernel) ?_
          have hNn12 := hN.2.2.1
          have hPc := hP.sub (ws' := []) [] rfl
          have hKc := hK.sub (tys' := []) [] rfl
          refine ro_calli (va_runSN (As := [.int w2, .int 6]) (rest := []) ⟨hx, hb, hml, hown, hts⟩ (c_X11_isBelow l D H.size w2 6 w2.toInt 6 rfl (by decide +kernel)) ⟨va_cnB 2 hts gm_X1_isWellFormed_e_X11_isBelow_68 rfl rfl rfl hNn12 (hts (.initialized RX11) (List.mem_cons_of_mem _ (List.mem_append_left _ (List.mem_append_left _ (List.mem_of_getElem? (i := 8) rfl))))) (by decide +kernel) ⟨Nat.le_of_ble_eq_true rfl, Nat.le_of_ble_eq_true rfl⟩, (hts (.static yX11_isBelow) (List.mem_cons_of_mem _ (List.mem_append_left _ (List.mem_append_left _ (List.mem_of_getElem? (i := 9) rfl))))), trivial⟩ (pA_S hKc hPc) rfl rfl hl.1 rfl (lv_room (Nat.le_of_ble_eq_true rfl)) dX1_isWellFormed_32 ⟨Nat.le_of_ble_eq_true rfl, Nat.le_of_ble_eq_true rfl⟩) hS hA hP (fun r13 u13 H locs hw13 hP hS => ?_)
          have hw13 : r13 = if (0 ≤ w2.toInt ∧ w2.toInt < 6) then 1 else 0 := hw13
          refine lv_if_eq (tgt := 53) hx hb dX1_isWellFormed_35 (by decide +kernel) (fun c14 => ?_) (fun c14 => ?_)
          · have f14 := fl_f hw13 c14
            refine lv_iconst (v := 0) hx hb dX1_isWellFormed_53 (by decide +kernel) ?_
            exact ro_zret hx hb hr hlocks hS rfl dX1_isWellFormed_54 ⟨(show 0 ≤ (0 : Int32).toInt ∧ (0 : Int32).toInt ≤ 1 from by decide +kernel), (show Sm (0 : Int32) (WF f.toInt w1.toInt w2.toInt w3.toInt (i 111).toInt) from sm_0 (by unfold WF; omega))⟩
          · have f14 := fl_t hw13 c14
            refine lv_iload hx hb dX1_isWellFormed_38 (lv_at hl 4 rfl) ?_
            refine lv_if_eq (tgt := 49) hx hb dX1_isWellFormed_40 (by decide +kernel) (fun c15 => ?_) (fun c15 => ?_)
            · have f15 := (ti_eq (a := w3.toInt) (b := 0) rfl (by decide +kernel)).mp c15
              refine lv_iconst (v := 1) hx hb dX1_isWellFormed_49 (by decide +kernel) ?_
              refine lv_goto (tgt := 54) hx hb dX1_isWellFormed_50 (by decide +kernel) ?_
              exact ro_zret hx hb hr hlocks hS rfl dX1_isWellFormed_54 ⟨(show 0 ≤ (1 : Int32).toInt ∧ (1 : Int32).toInt ≤ 1 from by decide +kernel), (show Sm (1 : Int32) (WF f.toInt w1.toInt w2.toInt w3.toInt (i 111).toInt) from sm_1 (by unfold WF; omega))⟩
            · have f15 := mt (ti_eq (a := w3.toInt) (b := 0) rfl (by decide +kernel)).mpr c15
              refine lv_iload hx hb dX1_isWellFormed_43 (lv_at hl 4 rfl) ?_
              refine lv_iconst (v := 1) hx hb dX1_isWellFormed_45 (by decide +kernel) ?_
              refine lv_icmp_ne (tgt := 53) hx hb dX1_isWellFormed_46 (by decide +kernel) (fun c16 => ?_) (fun c16 => ?_)
              · have f16 := mt (ti_eq (a := w3.toInt) (b := 1) rfl (by decide +kernel)).mpr c16
                refine lv_iconst (v := 0) hx hb dX1_isWellFormed_53 (by decide +kernel) ?_
                exact ro_zret hx hb hr hlocks hS rfl dX1_isWellFormed_54 ⟨(show 0 ≤ (0 : Int32).toInt ∧ (0 : Int32).toInt ≤ 1 from by decide +kernel), (show Sm (0 : Int32) (WF f.toInt w1.toInt w2.toInt w3.toInt (i 111).toInt) from sm_0 (by unfold WF; omega))⟩
              · have f16 := (ti_eq (a := w3.toInt) (b := 1) rfl (by decide +kernel)).mp c16
                refine lv_iconst (v := 1) hx hb dX1_isWellFormed_49 (by decide +kernel) ?_
                refine lv_goto (tgt := 54) hx hb dX1_isWellFormed_50 (by decide +kernel) ?_
                exact ro_zret hx hb hr hlocks hS rfl dX1_isWellFormed_54 ⟨(show 0 ≤ (1 : Int32).toInt ∧ (1 : Int32).toInt ≤ 1 from by decide +kernel), (show Sm (1 : Int32) (WF f.toInt w1.toInt w2.toInt w3.toInt (i 111).toInt) from sm_1 (by unfold WF; omega))⟩
      · have f4 := fl_f hw3 c4
        refine lv_iconst (v := 0) hx hb dX1_isWellFormed_21 (by decide +kernel) ?_
        exact ro_zret hx hb hr hlocks hS rfl dX1_isWellFormed_22 ⟨(show 0 ≤ (0 : Int32).toInt ∧ (0 : Int32).toInt ≤ 1 from by decide +kernel), (show Sm (0 : Int32) (WF f.toInt w1.toInt w2.toInt w3.toInt (i 111).toInt) from sm_0 (by unfold WF; omega))⟩

def wm_X1_isFitting_e : List Cond := .code yX1_isFitting cX1_isFitting 5 (some .boolean) :: ((([.fieldLink RX1 43 "TalePlay$Book" "world" "LTalePlay$World;", .methodLink RX1 72 yX10_sortOf, .instanceMethod yX10_sortOf, .selects RX10 yX10_sortOf yX10_sortOf, .initialized RX10, .code yX10_sortOf cX10_sortOf 2 (some .int), .fieldLink RX10 37 "TalePlay$World" "objects" "I", .fieldLink RX10 15 "TalePlay$World" "sorts" "[I", .fieldLink RX10 21 "TalePlay$World" "kindOf" "[I", .methodLink RX1 79 yX10_isGoods, .instanceMethod yX10_isGoods, .selects RX10 yX10_isGoods yX10_isGoods, .code yX10_isGoods cX10_isGoods 2 (some .boolean), .methodLink RX10 44 yX10_isMovable, .instanceMethod yX10_isMovable, .selects RX10 yX10_isMovable yX10_isMovable] : List Cond) ++ ([.code yX10_isMovable cX10_isMovable 3 (some .boolean), .methodLink RX10 40 yX10_sortOf, .methodLink RX1 85 yX10_isShutter, .instanceMethod yX10_isShutter, .selects RX10 yX10_isShutter yX10_isShutter, .code yX10_isShutter cX10_isShutter 3 (some .boolean), .methodLink RX1 76 yX10_isMovable, .methodLink RX1 82 yX10_canHave, .instanceMethod yX10_canHave, .selects RX10 yX10_canHave yX10_canHave, .code yX10_canHave cX10_canHave 3 (some .boolean), .methodLink RX10 48 yX10_isShutter, .methodLink RX10 51 yX10_isGoods] : List Cond)) ++ wsX10 ++ wsX100)
set_option maxRecDepth 20000 in
theorem gm_X1_isFitting_e_X10_sortOf_e_72 : GoodIn wm_X1_isFitting_e (wsV RX1 72 RX10 yX10_sortOf wm_X10_sortOf_e) := goodIn_w (List.forall_mem_append.mpr ⟨List.forall_mem_cons.mpr ⟨List.mem_cons_of_mem _ (List.mem_append_left _ (List.mem_append_left _ (List.mem_append_left _ (List.mem_of_getElem? (i := 1) rfl)))), List.forall_mem_cons.mpr ⟨List.mem_cons_of_mem _ (List.mem_append_left _ (List.mem_append_left _ (List.mem_append_left _ (List.mem_of_getElem? (i := 2) rfl)))), List.forall_mem_cons.mpr ⟨List.mem_cons_of_mem _ (List.mem_append_left _ (List.mem_append_left _ (List.mem_append_left _ (List.mem_of_getElem? (i := 3) rfl)))), List.forall_mem_cons.mpr ⟨List.mem_cons_of_mem _ (List.mem_append_left _ (List.mem_append_left _ (List.mem_append_left _ (List.mem_of_getElem? (i := 4) rfl)))), (fun _ h => absurd h List.not_mem_nil)⟩⟩⟩⟩, List.forall_mem_cons.mpr ⟨List.mem_cons_of_mem _ (List.mem_append_left _ (List.mem_append_left _ (List.mem_append_left _ (List.mem_of_getElem? (i := 5) rfl)))), List.forall_mem_append.mpr ⟨List.forall_mem_cons.mpr ⟨List.mem_cons_of_mem _ (List.mem_append_left _ (List.mem_append_left _ (List.mem_append_left _ (List.mem_of_getElem? (i := 6) rfl)))), List.forall_mem_cons.mpr ⟨List.mem_cons_of_mem _ (List.mem_append_left _ (List.mem_append_left _ (List.mem_append_left _ (List.mem_of_getElem? (i := 7) rfl)))), List.forall_mem_cons.mpr ⟨List.mem_cons_of_mem _ (List.mem_append_left _ (List.mem_append_left _ (List.mem_append_left _ (List.mem_of_getElem? (i := 8) rfl)))), (fun _ h => absurd h List.not_mem_nil)⟩⟩⟩, (fun _ h => List.mem_cons_of_mem _ (List.mem_append_right _ h))⟩⟩⟩) (by decide +kernel)
set_option maxRecDepth 20000 in
theorem gm_X1_isFitting_e_X10_isGoods_e_79 : GoodIn wm_X1_isFitting_e (wsV RX1 79 RX10 yX10_isGoods wm_X10_isGoods_e) := goodIn_w (List.forall_mem_append.mpr ⟨List.forall_mem_cons.mpr ⟨List.mem_cons_of_mem _ (List.mem_append_left _ (List.mem_append_left _ (List.mem_append_left _ (List.mem_of_getElem? (i := 9) rfl)))), List.forall_mem_cons.mpr ⟨List.mem_cons_of_mem _ (List.mem_append_left _ (List.mem_append_left _ (List.mem_append_left _ (List.mem_of_getElem? (i := 10) rfl)))), List.forall_mem_cons.mpr ⟨List.mem_cons_of_mem _ (List.mem_append_left _ (List.mem_append_left _ (List.mem_append_left _ (List.mem_of_getElem? (i := 11) rfl)))), List.forall_mem_cons.mpr ⟨List.mem_cons_of_mem _ (List.mem_append_left _ (List.mem_append_left _ (List.mem_append_left _ (List.mem_of_getElem? (i := 4) rfl)))), (fun _ h => absurd h List.not_mem_nil)⟩⟩⟩⟩, List.forall_mem_cons.mpr ⟨List.mem_cons_of_mem _ (List.mem_append_left _ (List.mem_append_left _ (List.mem_append_left _ (List.mem_of_getElem? (i := 12) rfl)))), List.forall_mem_append.mpr ⟨List.forall_mem_cons.mpr ⟨List.mem_cons_of_mem _ (List.mem_append_left _ (List.mem_append_left _ (List.mem_append_left _ (List.mem_of_getElem? (i := 13) rfl)))), List.forall_mem_cons.mpr ⟨List.mem_cons_of_mem _ (List.mem_append_left _ (List.mem_append_left _ (List.mem_append_left _ (List.mem_of_getElem? (i := 14) rfl)))), List.forall_mem_cons.mpr ⟨List.mem_cons_of_mem _ (List.mem_append_left _ (List.mem_append_left _ (List.mem_append_left _ (List.mem_of_getElem? (i := 15) rfl)))), List.forall_mem_cons.mpr ⟨List.mem_cons_of_mem _ (List.mem_append_left _ (List.mem_append_left _ (List.mem_append_left _ (List.mem_of_getElem? (i := 4) rfl)))), List.forall_mem_cons.mpr ⟨List.mem_cons_of_mem _ (List.mem_append_left _ (List.mem_append_left _ (List.mem_append_right _ (List.mem_of_getElem? (i := 0) rfl)))), List.forall_mem_cons.mpr ⟨List.mem_cons_of_mem _ (List.mem_append_left _ (List.mem_append_left _ (List.mem_append_right _ (List.mem_of_getElem? (i := 1) rfl)))), List.forall_mem_cons.mpr ⟨List.mem_cons_of_mem _ (List.mem_append_left _ (List.mem_append_left _ (List.mem_append_left _ (List.mem_of_getElem? (i := 2) rfl)))), List.forall_mem_cons.mpr ⟨List.mem_cons_of_mem _ (List.mem_append_left _ (List.mem_append_left _ (List.mem_append_left _ (List.mem_of_getElem? (i := 3) rfl)))), List.forall_mem_cons.mpr ⟨List.mem_cons_of_mem _ (List.mem_append_left _ (List.mem_append_left _ (List.mem_append_left _ (List.mem_of_getElem? (i := 5) rfl)))), List.forall_mem_cons.mpr ⟨List.mem_cons_of_mem _ (List.mem_append_left _ (List.mem_append_left _ (List.mem_append_left _ (List.mem_of_getElem? (i := 6) rfl)))), List.forall_mem_cons.mpr ⟨List.mem_cons_of_mem _ (List.mem_append_left _ (List.mem_append_left _ (List.mem_append_left _ (List.mem_of_getElem? (i := 7) rfl)))), List.forall_mem_cons.mpr ⟨List.mem_cons_of_mem _ (List.mem_append_left _ (List.mem_append_left _ (List.mem_append_left _ (List.mem_of_getElem? (i := 8) rfl)))), (fun _ h => absurd h List.not_mem_nil)⟩⟩⟩⟩⟩⟩⟩⟩⟩⟩⟩⟩, (fun _ h => List.mem_cons_of_mem _ (List.mem_append_right _ h))⟩⟩⟩) (by decide +kernel)
set_option maxRecDepth 20000 in
theorem gm_X1_isFitting_e_X10_isShutter_e_85 : GoodIn wm_X1_isFitting_e (wsV RX1 85 RX10 yX10_isShutter wm_X10_isShutter_e) := goodIn_w (List.forall_mem_append.mpr ⟨List.forall_mem_cons.mpr ⟨List.mem_cons_of_mem _ (List.mem_append_left _ (List.mem_append_left _ (List.mem_append_right _ (List.mem_of_getElem? (i := 2) rfl)))), List.forall_mem_cons.mpr ⟨List.mem_cons_of_mem _ (List.mem_append_left _ (List.mem_append_left _ (List.mem_append_right _ (List.mem_of_getElem? (i := 3) rfl)))), List.forall_mem_cons.mpr ⟨List.mem_cons_of_mem _ (List.mem_append_left _ (List.mem_append_left _ (List.mem_append_right _ (List.mem_of_getElem? (i := 4) rfl)))), List.forall_mem_cons.mpr ⟨List.mem_cons_of_mem _ (List.mem_append_left _ (List.mem_append_left _ (List.mem_append_left _ (List.mem_of_getElem? (i := 4) rfl)))), (fun _ h => absurd h List.not_mem_nil)⟩⟩⟩⟩, List.forall_mem_cons.mpr ⟨List.mem_cons_of_mem _ (List.mem_append_left _ (List.mem_append_left _ (List.mem_append_right _ (List.mem_of_getElem? (i := 5) rfl)))), List.forall_mem_append.mpr ⟨List.forall_mem_cons.mpr ⟨List.mem_cons_of_mem _ (List.mem_append_left _ (List.mem_append_left _ (List.mem_append_right _ (List.mem_of_getElem? (i := 1) rfl)))), List.forall_mem_cons.mpr ⟨List.mem_cons_of_mem _ (List.mem_append_left _ (List.mem_append_left _ (List.mem_append_left _ (List.mem_of_getElem? (i := 2) rfl)))), List.forall_mem_cons.mpr ⟨List.mem_cons_of_mem _ (List.mem_append_left _ (List.mem_append_left _ (List.mem_append_left _ (List.mem_of_getElem? (i := 3) rfl)))), List.forall_mem_cons.mpr ⟨List.mem_cons_of_mem _ (List.mem_append_left _ (List.mem_append_left _ (List.mem_append_left _ (List.mem_of_getElem? (i := 4) rfl)))), List.forall_mem_cons.mpr ⟨List.mem_cons_of_mem _ (List.mem_append_left _ (List.mem_append_left _ (List.mem_append_left _ (List.mem_of_getElem? (i := 5) rfl)))), List.forall_mem_cons.mpr ⟨List.mem_cons_of_mem _ (List.mem_append_left _ (List.mem_append_left _ (List.mem_append_left _ (List.mem_of_getElem? (i := 6) rfl)))), List.forall_mem_cons.mpr ⟨List.mem_cons_of_mem _ (List.mem_append_left _ (List.mem_append_left _ (List.mem_append_left _ (List.mem_of_getElem? (i := 7) rfl)))), List.forall_mem_cons.mpr ⟨List.mem_cons_of_mem _ (List.mem_append_left _ (List.mem_append_left _ (List.mem_append_left _ (List.mem_of_getElem? (i := 8) rfl)))), (fun _ h => absurd h List.not_mem_nil)⟩⟩⟩⟩⟩⟩⟩⟩, (fun _ h => List.mem_cons_of_mem _ (List.mem_append_right _ h))⟩⟩⟩) (by decide +kernel)
set_option maxRecDepth 20000 in
theorem gm_X1_isFitting_e_X10_isMovable_e_76 : GoodIn wm_X1_isFitting_e (wsV RX1 76 RX10 yX10_isMovable wm_X10_isMovable_e) := goodIn_w (List.forall_mem_append.mpr ⟨List.forall_mem_cons.mpr ⟨List.mem_cons_of_mem _ (List.mem_append_left _ (List.mem_append_left _ (List.mem_append_right _ (List.mem_of_getElem? (i := 6) rfl)))), List.forall_mem_cons.mpr ⟨List.mem_cons_of_mem _ (List.mem_append_left _ (List.mem_append_left _ (List.mem_append_left _ (List.mem_of_getElem? (i := 14) rfl)))), List.forall_mem_cons.mpr ⟨List.mem_cons_of_mem _ (List.mem_append_left _ (List.mem_append_left _ (List.mem_append_left _ (List.mem_of_getElem? (i := 15) rfl)))), List.forall_mem_cons.mpr ⟨List.mem_cons_of_mem _ (List.mem_append_left _ (List.mem_append_left _ (List.mem_append_left _ (List.mem_of_getElem? (i := 4) rfl)))), (fun _ h => absurd h List.not_mem_nil)⟩⟩⟩⟩, List.forall_mem_cons.mpr ⟨List.mem_cons_of_mem _ (List.mem_append_left _ (List.mem_append_left _ (List.mem_append_right _ (List.mem_of_getElem? (i := 0) rfl)))), List.forall_mem_append.mpr ⟨List.forall_mem_cons.mpr ⟨List.mem_cons_of_mem _ (List.mem_append_left _ (List.mem_append_left _ (List.mem_append_right _ (List.mem_of_getElem? (i := 1) rfl)))), List.forall_mem_cons.mpr ⟨List.mem_cons_of_mem _ (List.mem_append_left _ (List.mem_append_left _ (List.mem_append_left _ (List.mem_of_getElem? (i := 2) rfl)))), List.forall_mem_cons.mpr ⟨List.mem_cons_of_mem _ (List.mem_append_left _ (List.mem_append_left _ (List.mem_append_left _ (List.mem_of_getElem? (i := 3) rfl)))), List.forall_mem_cons.mpr ⟨List.mem_cons_of_mem _ (List.mem_append_left _ (List.mem_append_left _ (List.mem_append_left _ (List.mem_of_getElem? (i := 4) rfl)))), List.forall_mem_cons.mpr ⟨List.mem_cons_of_mem _ (List.mem_append_left _ (List.mem_append_left _ (List.mem_append_left _ (List.mem_of_getElem? (i := 5) rfl)))), List.forall_mem_cons.mpr ⟨List.mem_cons_of_mem _ (List.mem_append_left _ (List.mem_append_left _ (List.mem_append_left _ (List.mem_of_getElem? (i := 6) rfl)))), List.forall_mem_cons.mpr ⟨List.mem_cons_of_mem _ (List.mem_append_left _ (List.mem_append_left _ (List.mem_append_left _ (List.mem_of_getElem? (i := 7) rfl)))), List.forall_mem_cons.mpr ⟨List.mem_cons_of_mem _ (List.mem_append_left _ (List.mem_append_left _ (List.mem_append_left _ (List.mem_of_getElem? (i := 8) rfl)))), (fun _ h => absurd h List.not_mem_nil)⟩⟩⟩⟩⟩⟩⟩⟩, (fun _ h => List.mem_cons_of_mem _ (List.mem_append_right _ h))⟩⟩⟩) (by decide +kernel)
set_option maxRecDepth 20000 in
theorem gm_X1_isFitting_e_X10_canHave_e_82 : GoodIn wm_X1_isFitting_e (wsV RX1 82 RX10 yX10_canHave wm_X10_canHave_e) := goodIn_w (List.forall_mem_append.mpr ⟨List.forall_mem_cons.mpr ⟨List.mem_cons_of_mem _ (List.mem_append_left _ (List.mem_append_left _ (List.mem_append_right _ (List.mem_of_getElem? (i := 7) rfl)))), List.forall_mem_cons.mpr ⟨List.mem_cons_of_mem _ (List.mem_append_left _ (List.mem_append_left _ (List.mem_append_right _ (List.mem_of_getElem? (i := 8) rfl)))), List.forall_mem_cons.mpr ⟨List.mem_cons_of_mem _ (List.mem_append_left _ (List.mem_append_left _ (List.mem_append_right _ (List.mem_of_getElem? (i := 9) rfl)))), List.forall_mem_cons.mpr ⟨List.mem_cons_of_mem _ (List.mem_append_left _ (List.mem_append_left _ (List.mem_append_left _ (List.mem_of_getElem? (i := 4) rfl)))), (fun _ h => absurd h List.not_mem_nil)⟩⟩⟩⟩, List.forall_mem_cons.mpr ⟨List.mem_cons_of_mem _ (List.mem_append_left _ (List.mem_append_left _ (List.mem_append_right _ (List.mem_of_getElem? (i := 10) rfl)))), List.forall_mem_append.mpr ⟨List.forall_mem_append.mpr ⟨List.forall_mem_cons.mpr ⟨List.mem_cons_of_mem _ (List.mem_append_left _ (List.mem_append_left _ (List.mem_append_right _ (List.mem_of_getElem? (i := 11) rfl)))), List.forall_mem_cons.mpr ⟨List.mem_cons_of_mem _ (List.mem_append_left _ (List.mem_append_left _ (List.mem_append_right _ (List.mem_of_getElem? (i := 3) rfl)))), List.forall_mem_cons.mpr ⟨List.mem_cons_of_mem _ (List.mem_append_left _ (List.mem_append_left _ (List.mem_append_right _ (List.mem_of_getElem? (i := 4) rfl)))), List.forall_mem_cons.mpr ⟨List.mem_cons_of_mem _ (List.mem_append_left _ (List.mem_append_left _ (List.mem_append_left _ (List.mem_of_getElem? (i := 4) rfl)))), List.forall_mem_cons.mpr ⟨List.mem_cons_of_mem _ (List.mem_append_left _ (List.mem_append_left _ (List.mem_append_right _ (List.mem_of_getElem? (i := 5) rfl)))), List.forall_mem_cons.mpr ⟨List.mem_cons_of_mem _ (List.mem_append_left _ (List.mem_append_left _ (List.mem_append_right _ (List.mem_of_getElem? (i := 1) rfl)))), List.forall_mem_cons.mpr ⟨List.mem_cons_of_mem _ (List.mem_append_left _ (List.mem_append_left _ (List.mem_append_left _ (List.mem_of_getElem? (i := 2) rfl)))), List.forall_mem_cons.mpr ⟨List.mem_cons_of_mem _ (List.mem_append_left _ (List.mem_append_left _ (List.mem_append_left _ (List.mem_of_getElem? (i := 3) rfl)))), List.forall_mem_cons.mpr ⟨List.mem_cons_of_mem _ (List.mem_append_left _ (List.mem_append_left _ (List.mem_append_left _ (List.mem_of_getElem? (i := 5) rfl)))), List.forall_mem_cons.mpr ⟨List.mem_cons_of_mem _ (List.mem_append_left _ (List.mem_append_left _ (List.mem_append_left _ (List.mem_of_getElem? (i := 6) rfl)))), List.forall_mem_cons.mpr ⟨List.mem_cons_of_mem _ (List.mem_append_left _ (List.mem_append_left _ (List.mem_append_left _ (List.mem_of_getElem? (i := 7) rfl)))), List.forall_mem_cons.mpr ⟨List.mem_cons_of_mem _ (List.mem_append_left _ (List.mem_append_left _ (List.mem_append_left _ (List.mem_of_getElem? (i := 8) rfl)))), List.forall_mem_cons.mpr ⟨List.mem_cons_of_mem _ (List.mem_append_left _ (List.mem_append_left _ (List.mem_append_left _ (List.mem_of_getElem? (i := 13) rfl)))), List.forall_mem_cons.mpr ⟨List.mem_cons_of_mem _ (List.mem_append_left _ (List.mem_append_left _ (List.mem_append_left _ (List.mem_of_getElem? (i := 14) rfl)))), List.forall_mem_cons.mpr ⟨List.mem_cons_of_mem _ (List.mem_append_left _ (List.mem_append_left _ (List.mem_append_left _ (List.mem_of_getElem? (i := 15) rfl)))), List.forall_mem_cons.mpr ⟨List.mem_cons_of_mem _ (List.mem_append_left _ (List.mem_append_left _ (List.mem_append_right _ (List.mem_of_getElem? (i := 0) rfl)))), (fun _ h => absurd h List.not_mem_nil)⟩⟩⟩⟩⟩⟩⟩⟩⟩⟩⟩⟩⟩⟩⟩⟩, List.forall_mem_cons.mpr ⟨List.mem_cons_of_mem _ (List.mem_append_left _ (List.mem_append_left _ (List.mem_append_right _ (List.mem_of_getElem? (i := 12) rfl)))), List.forall_mem_cons.mpr ⟨List.mem_cons_of_mem _ (List.mem_append_left _ (List.mem_append_left _ (List.mem_append_left _ (List.mem_of_getElem? (i := 10) rfl)))), List.forall_mem_cons.mpr ⟨List.mem_cons_of_mem _ (List.mem_append_left _ (List.mem_append_left _ (List.mem_append_left _ (List.mem_of_getElem? (i := 11) rfl)))), List.forall_mem_cons.mpr ⟨List.mem_cons_of_mem _ (List.mem_append_left _ (List.mem_append_left _ (List.mem_append_left _ (List.mem_of_getElem? (i := 12) rfl)))), (fun _ h => absurd h List.not_mem_nil)⟩⟩⟩⟩⟩, (fun _ h => List.mem_cons_of_mem _ (List.mem_append_right _ h))⟩⟩⟩) (by decide +kernel)
set_option maxHeartbeats 4000000 in
set_option maxRecDepth 100000 in
theorem x_X1_isFitting_e (l : Launch) (D : va_G) (sz : Nat) (sk : Value) (a : Nat → Nat) (t : Nat → ClassId) (i : Nat → Int32) (q : Int64) (c : Nat → Nat → Int32) (d : Nat → Nat → Int64) (f : Int32) (w1 : Int32) (w2 : Int32) (hI : xInv i c) (hf : 0 ≤ f.toInt ∧ f.toInt ≤ 7) (hiw1 : 0 ≤ w1.toInt ∧ w1.toInt < (i 111).toInt) (hb5 : f.toInt = 6 ∨ (0 ≤ w2.toInt ∧ w2.toInt < (i 111).toInt)) (hb6 : ¬ f.toInt = 6 ∨ (0 ≤ w2.toInt ∧ w2.toInt ≤ 5)) : Met l yX1_isFitting wm_X1_isFitting_e ({ frames := 4, cells := 0, slots := 0, locals := 86 }) (va_Pc [.ref (a 112), .int f, .int w1, .int w2] (yA (a 186) D sz (xwB sk a t i q c d) (xtB t))) (va_Qi (fun (r : Int32) (_ : Unit) => ((0 ≤ r.toInt ∧ r.toInt ≤ 1) ∧ (Sm r (Fit f.toInt (c 106 (c 108 w1.toInt.toNat).toNatClampNeg).toInt w2.toInt (c 106 (c 108 w2.toInt.toNat).toNatClampNeg).toInt)))) oA (ro sz)) 0 0 (ro sz) := by
  refine Met.ofW (cc := cX1_isFitting) (maxL := 5) (ret := (some .boolean)) (by decide +kernel) rfl ?_
  intro p e s m args below meth cd s₁ B hml hv
  obtain ⟨rfl, ⟨hsz, hP, hK⟩, hN, hZ⟩ := hv
  have hx := B.exec
  have hb := B.bytes
  have hr := B.returns
  have hts := atoms_spec (ws := wm_X1_isFitting_e) B.pre
  have hown : s.vm.findClass RX1 = some m.cls := findClass_of_methodNamed B.named
  have hlocks := B.notSynchronized
  subst hsz
  have hA : ∀ q : Nat, s.heap.size ≤ q → ro s.heap.size q := fun _ h => h
  have hS : va_S (ro s.heap.size) s.heap s.heap [] := va_S.rf
  have hl := lv_entry ([.ref (a 112), .int f, .int w1, .int w2]) (n := 5) (Nat.le_of_ble_eq_true rfl)
  rw [lg_entry_eq]
  generalize (lg_sl ([.ref (a 112), .int f, .int w1, .int w2]) ++ List.replicate (5 - (lg_sl ([.ref (a 112), .int f, .int w1, .int w2])).length) Slot.unset).toArray = ls at hl ⊢
  have hl : lv_has ls 5 [(0, .ref (a 112)), (1, .int f), (2, .int w1), (3, .int w2)] := hl
  have rb111_i : 0 ≤ (i 111).toInt ∧ (i 111).toInt ≤ 30 := hI.1 111
  refine lv_aload_n hx hb dX1_isFitting_0 rfl (lv_at hl 0 rfl) ?_
  refine xgB_B_world hx hb hts (fun _ h => List.mem_cons_of_mem _ (List.mem_append_left _ (List.mem_append_right _ h))) hown hK hP (hts (.fieldLink RX1 43 "TalePlay$Book" "world" "LTalePlay$World;") (List.mem_cons_of_mem _ (List.mem_append_left _ (List.mem_append_left _ (List.mem_append_left _ (List.mem_of_getElem? (i := 0) rfl)))))) dX1_isFitting_1 ?_
  refine lv_iload_n hx hb dX1_isFitting_4 rfl (lv_at hl 3 rfl) ?_
  refine ro_calli (va_runV (As := [.int w2]) (rest := []) ⟨hx, hb, hml, hown, hts⟩ (x_X10_sortOf_e l D s.heap.size .null a t i q c d w2 hI ) (cwV 1 hts gm_X1_isFitting_e_X10_sortOf_e_72 rfl rfl rfl (by decide +kernel) ⟨Nat.le_of_ble_eq_true rfl, Nat.le_of_ble_eq_true rfl⟩) (yA_V hN (xZ_k hZ hS hA) (xkB_W hK) (xuB_W (sk := sk) hP) (ci := 10) (q0 := 0) rfl rfl) rfl rfl hl.1 rfl (lv_room (Nat.le_of_ble_eq_true rfl)) dX1_isFitting_5 ⟨Nat.le_of_ble_eq_true rfl, Nat.le_of_ble_eq_true rfl⟩) hS hA hP (fun r1 u1 H locs hw1 hP hS => ?_)
  have hw1 : (((r1.toInt = -9 ∧ ¬ (0 ≤ w2.toInt ∧ w2.toInt < (i 111).toInt)) ∨ (0 ≤ r1.toInt ∧ r1.toInt ≤ 5 ∧ 0 ≤ w2.toInt ∧ w2.toInt < (i 111).toInt)) ∧ (SO (c 106) (c 108) (i 111).toInt w2.toInt r1.toInt)) := hw1
  obtain ⟨hw1, hr1_0⟩ := hw1
  have hr1_0 : SO (c 106) (c 108) (i 111).toInt w2.toInt r1.toInt := hr1_0
  have hob : ¬ (0 ≤ w2.toInt ∧ w2.toInt < (i 111).toInt) ∨ r1.toInt = (c 106 (c 108 w2.toInt.toNat).toNatClampNeg).toInt := by rcases hr1_0 with h9 | h9; (· exact Or.inr h9.2.2); (· exact Or.inl h9.1)
  refine lv_istore (lv' := [(4, .int r1), (0, .ref (a 112)), (1, .int f), (2, .int w1), (3, .int w2)]) hx hb dX1_isFitting_8 hl (by decide +kernel) rfl (fun ls hl => ?_)
  refine lv_iload_n hx hb dX1_isFitting_10 rfl (lv_at hl 2 rfl) ?_
  rcases (show (f.toInt < 0 ∨ 6 < f.toInt) ∨ f.toInt = 0 ∨ f.toInt = 1 ∨ f.toInt = 2 ∨ f.toInt = 3 ∨ f.toInt = 4 ∨ f.toInt = 5 ∨ f.toInt = 6 by omega) with f2 | f2 | f2 | f2 | f2 | f2 | f2 | f2
  · refine lv_tableOut (tgt := 198) hx hb dX1_isFitting_11 f2 (by decide +kernel) ?_
    refine lv_aload_n hx hb dX1_isFitting_198 rfl (lv_at hl 1 rfl) ?_
    refine xgB_B_world hx hb hts (fun _ h => List.mem_cons_of_mem _ (List.mem_append_left _ (List.mem_append_right _ h))) hown hK hP (hts (.fieldLink RX1 43 "TalePlay$Book" "world" "LTalePlay$World;") (List.mem_cons_of_mem _ (List.mem_append_left _ (List.mem_append_left _ (List.mem_append_left _ (List.mem_of_getElem? (i := 0) rfl)))))) dX1_isFitting_199 ?_
    refine lv_iload_n hx hb dX1_isFitting_202 rfl (lv_at hl 3 rfl) ?_
    refine ro_calli (va_runV (As := [.int w1]) (rest := []) ⟨hx, hb, hml, hown, hts⟩ (x_X10_isGoods_e l D H.size .null a t i q c d w1 hI (show 0 ≤ w1.toInt ∧ w1.toInt < ((i 111) : Int32).toInt from by omega)) (cwV 1 hts gm_X1_isFitting_e_X10_isGoods_e_79 rfl rfl rfl (by decide +kernel) ⟨Nat.le_of_ble_eq_true rfl, Nat.le_of_ble_eq_true rfl⟩) (yA_V hN (xZ_k hZ hS hA) (xkB_W hK) (xuB_W (sk := sk) hP) (ci := 10) (q0 := 0) rfl rfl) rfl rfl hl.1 rfl (lv_room (Nat.le_of_ble_eq_true rfl)) dX1_isFitting_203 ⟨Nat.le_of_ble_eq_true rfl, Nat.le_of_ble_eq_true rfl⟩) hS hA hP (fun r3 u3 H locs hw3 hP hS => ?_)
    have hw3 : (((r3.toInt = 1 ∧ (((c 106 (c 108 w1.toInt.toNat).toNatClampNeg).toInt = 1 ∨ 3 ≤ (c 106 (c 108 w1.toInt.toNat).toNatClampNeg).toInt) ∧ ¬ (c 106 (c 108 w1.toInt.toNat).toNatClampNeg).toInt = 5)) ∨ (r3.toInt = 0 ∧ ¬ (((c 106 (c 108 w1.toInt.toNat).toNatClampNeg).toInt = 1 ∨ 3 ≤ (c 106 (c 108 w1.toInt.toNat).toNatClampNeg).toInt) ∧ ¬ (c 106 (c 108 w1.toInt.toNat).toNatClampNeg).toInt = 5)))) := hw3
    refine lv_if_eq (tgt := 224) hx hb dX1_isFitting_206 (by decide +kernel) (fun c4 => ?_) (fun c4 => ?_)
    · have f4 := (ti_eq (a := r3.toInt) (b := 0) rfl (by decide +kernel)).mp c4
      refine lv_iconst (v := 0) hx hb dX1_isFitting_224 (by decide +kernel) ?_
      exact ro_zret hx hb hr hlocks hS rfl dX1_isFitting_225 ⟨(show 0 ≤ (0 : Int32).toInt ∧ (0 : Int32).toInt ≤ 1 from by decide +kernel), (show Sm (0 : Int32) (Fit f.toInt (c 106 (c 108 w1.toInt.toNat).toNatClampNeg).toInt w2.toInt (c 106 (c 108 w2.toInt.toNat).toNatClampNeg).toInt) from sm_0 (mt (Fit_7 (by omega)).mp (by omega)))⟩
    · have f4 := mt (ti_eq (a := r3.toInt) (b := 0) rfl (by decide +kernel)).mpr c4
      refine lv_aload_n hx hb dX1_isFitting_209 rfl (lv_at hl 1 rfl) ?_
      refine xgB_B_world hx hb hts (fun _ h => List.mem_cons_of_mem _ (List.mem_append_left _ (List.mem_append_right _ h))) hown hK hP (hts (.fieldLink RX1 43 "TalePlay$Book" "world" "LTalePlay$World;") (List.mem_cons_of_mem _ (List.mem_append_left _ (List.mem_append_left _ (List.mem_append_left _ (List.mem_of_getElem? (i := 0) rfl)))))) dX1_isFitting_210 ?_
      refine lv_iload_n hx hb dX1_isFitting_213 rfl (lv_at hl 4 rfl) ?_
      refine ro_calli (va_runV (As := [.int w2]) (rest := []) ⟨hx, hb, hml, hown, hts⟩ (x_X10_isShutter_e l D H.size .null a t i q c d w2 hI (show 0 ≤ w2.toInt ∧ w2.toInt < ((i 111) : Int32).toInt from by omega)) (cwV 1 hts gm_X1_isFitting_e_X10_isShutter_e_85 rfl rfl rfl (by decide +kernel) ⟨Nat.le_of_ble_eq_true rfl, Nat.le_of_ble_eq_true rfl⟩) (yA_V hN (xZ_k hZ hS hA) (xkB_W hK) (xuB_W (sk := sk) hP) (ci := 10) (q0 := 0) rfl rfl) rfl rfl hl.1 rfl (lv_room (Nat.le_of_ble_eq_true rfl)) dX1_isFitting_214 ⟨Nat.le_of_ble_eq_true rfl, Nat.le_of_ble_eq_true rfl⟩) hS hA hP (fun r5 u5 H locs hw5 hP hS => ?_)
      have hw5 : (((r5.toInt = 1 ∧ ((c 106 (c 108 w2.toInt.toNat).toNatClampNeg).toInt = 2 ∨ (c 106 (c 108 w2.toInt.toNat).toNatClampNeg).toInt = 3)) ∨ (r5.toInt = 0 ∧ ¬ ((c 106 (c 108 w2.toInt.toNat).toNatClampNeg).toInt = 2 ∨ (c 106 (c 108 w2.toInt.toNat).toNatClampNeg).toInt = 3)))) := hw5
      refine lv_if_eq (tgt := 224) hx hb dX1_isFitting_217 (by decide +kernel) (fun c6 => ?_) (fun c6 => ?_)
      · have f6 := (ti_eq (a := r5.toInt) (b := 0) rfl (by decide +kernel)).mp c6
        refine lv_iconst (v := 0) hx hb dX1_isFitting_224 (by decide +kernel) ?_
        exact ro_zret hx hb hr hlocks hS rfl dX1_isFitting_225 ⟨(show 0 ≤ (0 : Int32).toInt ∧ (0 : Int32).toInt ≤ 1 from by decide +kernel), (show Sm (0 : Int32) (Fit f.toInt (c 106 (c 108 w1.toInt.toNat).toNatClampNeg).toInt w2.toInt (c 106 (c 108 w2.toInt.toNat).toNatClampNeg).toInt) from sm_0 (mt (Fit_7 (by omega)).mp (by omega)))⟩
      · have f6 := mt (ti_eq (a := r5.toInt) (b := 0) rfl (by decide +kernel)).mpr c6
        refine lv_iconst (v := 1) hx hb dX1_isFitting_220 (by decide +kernel) ?_
        refine lv_goto (tgt := 225) hx hb dX1_isFitting_221 (by decide +kernel) ?_
        exact ro_zret hx hb hr hlocks hS rfl dX1_isFitting_225 ⟨(show 0 ≤ (1 : Int32).toInt ∧ (1 : Int32).toInt ≤ 1 from by decide +kernel), (show Sm (1 : Int32) (Fit f.toInt (c 106 (c 108 w1.toInt.toNat).toNatClampNeg).toInt w2.toInt (c 106 (c 108 w2.toInt.toNat).toNatClampNeg).toInt) from sm_1 ((Fit_7 (by omega)).mpr (by omega)))⟩
  · refine lv_tableIn (off := 41) (tgt := 52) hx hb dX1_isFitting_11 (by omega) (by omega) (by rw [f2]; rfl) (by decide +kernel) ?_
    refine lv_aload_n hx hb dX1_isFitting_52 rfl (lv_at hl 1 rfl) ?_
    refine xgB_B_world hx hb hts (fun _ h => List.mem_cons_of_mem _ (List.mem_append_left _ (List.mem_append_right _ h))) hown hK hP (hts (.fieldLink RX1 43 "TalePlay$Book" "world" "LTalePlay$World;") (List.mem_cons_of_mem _ (List.mem_append_left _ (List.mem_append_left _ (List.mem_append_left _ (List.mem_of_getElem? (i := 0) rfl)))))) dX1_isFitting_53 ?_
    refine lv_iload_n hx hb dX1_isFitting_56 rfl (lv_at hl 3 rfl) ?_
    refine ro_calli (va_runV (As := [.int w1]) (rest := []) ⟨hx, hb, hml, hown, hts⟩ (x_X10_isMovable_e l D H.size .null a t i q c d w1 hI (show 0 ≤ w1.toInt ∧ w1.toInt < ((i 111) : Int32).toInt from by omega)) (cwV 1 hts gm_X1_isFitting_e_X10_isMovable_e_76 rfl rfl rfl (by decide +kernel) ⟨Nat.le_of_ble_eq_true rfl, Nat.le_of_ble_eq_true rfl⟩) (yA_V hN (xZ_k hZ hS hA) (xkB_W hK) (xuB_W (sk := sk) hP) (ci := 10) (q0 := 0) rfl rfl) rfl rfl hl.1 rfl (lv_room (Nat.le_of_ble_eq_true rfl)) dX1_isFitting_57 ⟨Nat.le_of_ble_eq_true rfl, Nat.le_of_ble_eq_true rfl⟩) hS hA hP (fun r7 u7 H locs hw7 hP hS => ?_)
    have hw7 : (((r7.toInt = 1 ∧ ((c 106 (c 108 w1.toInt.toNat).toNatClampNeg).toInt = 1 ∨ 3 ≤ (c 106 (c 108 w1.toInt.toNat).toNatClampNeg).toInt)) ∨ (r7.toInt = 0 ∧ ¬ ((c 106 (c 108 w1.toInt.toNat).toNatClampNeg).toInt = 1 ∨ 3 ≤ (c 106 (c 108 w1.toInt.toNat).toNatClampNeg).toInt)))) := hw7
    refine lv_if_eq (tgt := 78) hx hb dX1_isFitting_60 (by decide +kernel) (fun c8 => ?_) (fun c8 => ?_)
    · have f8 := (ti_eq (a := r7.toInt) (b := 0) rfl (by decide +kernel)).mp c8
      refine lv_iconst (v := 0) hx hb dX1_isFitting_78 (by decide +kernel) ?_
      refine lv_goto (tgt := 225) hx hb dX1_isFitting_79 (by decide +kernel) ?_
      exact ro_zret hx hb hr hlocks hS rfl dX1_isFitting_225 ⟨(show 0 ≤ (0 : Int32).toInt ∧ (0 : Int32).toInt ≤ 1 from by decide +kernel), (show Sm (0 : Int32) (Fit f.toInt (c 106 (c 108 w1.toInt.toNat).toNatClampNeg).toInt w2.toInt (c 106 (c 108 w2.toInt.toNat).toNatClampNeg).toInt) from sm_0 (mt (Fit_0 (by omega)).mp (by omega)))⟩
    · have f8 := mt (ti_eq (a := r7.toInt) (b := 0) rfl (by decide +kernel)).mpr c8
      refine lv_iload hx hb dX1_isFitting_63 (lv_at hl 0 rfl) ?_
      refine lv_if_eq (tgt := 74) hx hb dX1_isFitting_65 (by decide +kernel) (fun c9 => ?_) (fun c9 => ?_)
      · have f9 := (ti_eq (a := r1.toInt) (b := 0) rfl (by decide +kernel)).mp c9
        refine lv_iconst (v := 1) hx hb dX1_isFitting_74 (by decide +kernel) ?_
        refine lv_goto (tgt := 225) hx hb dX1_isFitting_75 (by decide +kernel) ?_
        exact ro_zret hx hb hr hlocks hS rfl dX1_isFitting_225 ⟨(show 0 ≤ (1 : Int32).toInt ∧ (1 : Int32).toInt ≤ 1 from by decide +kernel), (show Sm (1 : Int32) (Fit f.toInt (c 106 (c 108 w1.toInt.toNat).toNatClampNeg).toInt w2.toInt (c 106 (c 108 w2.toInt.toNat).toNatClampNeg).toInt) from sm_1 ((Fit_0 (by omega)).mpr (by omega)))⟩
      · have f9 := mt (ti_eq (a := r1.toInt) (b := 0) rfl (by decide +kernel)).mpr c9
        refine lv_iload hx hb dX1_isFitting_68 (lv_at hl 0 rfl) ?_
        refine lv_iconst (v := 3) hx hb dX1_isFitting_70 (by decide +kernel) ?_
        refine lv_icmp_ne (tgt := 78) hx hb dX1_isFitting_71 (by decide +kernel) (fun c10 => ?_) (fun c10 => ?_)
        · have f10 := mt (ti_eq (a := r1.toInt) (b := 3) rfl (by decide +kernel)).mpr c10
          refine lv_iconst (v := 0) hx hb dX1_isFitting_78 (by decide +kernel) ?_
          refine lv_goto (tgt := 225) hx hb dX1_isFitting_79 (by decide +kernel) ?_
          exact ro_zret hx hb hr hlocks hS rfl dX1_isFitting_225 ⟨(show 0 ≤ (0 : Int32).toInt ∧ (0 : Int32).toInt ≤ 1 from by decide +kernel), (show Sm (0 : Int32) (Fit f.toInt (c 106 (c 108 w1.toInt.toNat).toNatClampNeg).toInt w2.toInt (c 106 (c 108 w2.toInt.toNat).toNatClampNeg).toInt) from sm_0 (mt (Fit_0 (by omega)).mp (by omega)))⟩
        · have f10 := (ti_eq (a := r1.toInt) (b := 3) rfl (by decide +kernel)).mp c10
          refine lv_iconst (v := 1) hx hb dX1_isFitting_74 (by decide +kernel) ?_
          refine lv_goto (tgt := 225) hx hb dX1_isFitting_75 (by decide +kernel) ?_
          exact ro_zret hx hb hr hlocks hS rfl dX1_isFitting_225 ⟨(show 0 ≤ (1 : Int32).toInt ∧ (1 : Int32).toInt ≤ 1 from by decide +kernel), (show Sm (1 : Int32) (Fit f.toInt (c 106 (c 108 w1.toInt.toNat).toNatClampNeg).toInt w2.toInt (c 106 (c 108 w2.toInt.toNat).toNatClampNeg).toInt) from sm_1 ((Fit_0 (by omega)).mpr (by omega)))⟩
  · refine lv_tableIn (off := 71) (tgt := 82) hx hb dX1_isFitting_11 (by omega) (by omega) (by rw [f2]; rfl) (by decide +kernel) ?_
    refine lv_aload_n hx hb dX1_isFitting_82 rfl (lv_at hl 1 rfl) ?_
    refine xgB_B_world hx hb hts (fun _ h => List.mem_cons_of_mem _ (List.mem_append_left _ (List.mem_append_right _ h))) hown hK hP (hts (.fieldLink RX1 43 "TalePlay$Book" "world" "LTalePlay$World;") (List.mem_cons_of_mem _ (List.mem_append_left _ (List.mem_append_left _ (List.mem_append_left _ (List.mem_of_getElem? (i := 0) rfl)))))) dX1_isFitting_83 ?_
    refine lv_iload_n hx hb dX1_isFitting_86 rfl (lv_at hl 3 rfl) ?_
    refine ro_calli (va_runV (As := [.int w1]) (rest := []) ⟨hx, hb, hml, hown, hts⟩ (x_X10_isMovable_e l D H.size .null a t i q c d w1 hI (show 0 ≤ w1.toInt ∧ w1.toInt < ((i 111) : Int32).toInt from by omega)) (cwV 1 hts gm_X1_isFitting_e_X10_isMovable_e_76 rfl rfl rfl (by decide +kernel) ⟨Nat.le_of_ble_eq_true rfl, Nat.le_of_ble_eq_true rfl⟩) (yA_V hN (xZ_k hZ hS hA) (xkB_W hK) (xuB_W (sk := sk) hP) (ci := 10) (q0 := 0) rfl rfl) rfl rfl hl.1 rfl (lv_room (Nat.le_of_ble_eq_true rfl)) dX1_isFitting_87 ⟨Nat.le_of_ble_eq_true rfl, Nat.le_of_ble_eq_true rfl⟩) hS hA hP (fun r11 u11 H locs hw11 hP hS => ?_)
    have hw11 : (((r11.toInt = 1 ∧ ((c 106 (c 108 w1.toInt.toNat).toNatClampNeg).toInt = 1 ∨ 3 ≤ (c 106 (c 108 w1.toInt.toNat).toNatClampNeg).toInt)) ∨ (r11.toInt = 0 ∧ ¬ ((c 106 (c 108 w1.toInt.toNat).toNatClampNeg).toInt = 1 ∨ 3 ≤ (c 106 (c 108 w1.toInt.toNat).toNatClampNeg).toInt)))) := hw11
    refine lv_if_eq (tgt := 103) hx hb dX1_isFitting_90 (by decide +kernel) (fun c12 => ?_) (fun c12 => ?_)
    · have f12 := (ti_eq (a := r11.toInt) (b := 0) rfl (by decide +kernel)).mp c12
      refine lv_iconst (v := 0) hx hb dX1_isFitting_103 (by decide +kernel) ?_
      refine lv_goto (tgt := 225) hx hb dX1_isFitting_104 (by decide +kernel) ?_
      exact ro_zret hx hb hr hlocks hS rfl dX1_isFitting_225 ⟨(show 0 ≤ (0 : Int32).toInt ∧ (0 : Int32).toInt ≤ 1 from by decide +kernel), (show Sm (0 : Int32) (Fit f.toInt (c 106 (c 108 w1.toInt.toNat).toNatClampNeg).toInt w2.toInt (c 106 (c 108 w2.toInt.toNat).toNatClampNeg).toInt) from sm_0 (mt (Fit_1 (by omega)).mp (by omega)))⟩
    · have f12 := mt (ti_eq (a := r11.toInt) (b := 0) rfl (by decide +kernel)).mpr c12
      refine lv_iload hx hb dX1_isFitting_93 (lv_at hl 0 rfl) ?_
      refine lv_iconst (v := 4) hx hb dX1_isFitting_95 (by decide +kernel) ?_
      refine lv_icmp_ne (tgt := 103) hx hb dX1_isFitting_96 (by decide +kernel) (fun c13 => ?_) (fun c13 => ?_)
      · have f13 := mt (ti_eq (a := r1.toInt) (b := 4) rfl (by decide +kernel)).mpr c13
        refine lv_iconst (v := 0) hx hb dX1_isFitting_103 (by decide +kernel) ?_
        refine lv_goto (tgt := 225) hx hb dX1_isFitting_104 (by decide +kernel) ?_
        exact ro_zret hx hb hr hlocks hS rfl dX1_isFitting_225 ⟨(show 0 ≤ (0 : Int32).toInt ∧ (0 : Int32).toInt ≤ 1 from by decide +kernel), (show Sm (0 : Int32) (Fit f.toInt (c 106 (c 108 w1.toInt.toNat).toNatClampNeg).toInt w2.toInt (c 106 (c 108 w2.toInt.toNat).toNatClampNeg).toInt) from sm_0 (mt (Fit_1 (by omega)).mp (by omega)))⟩
      · have f13 := (ti_eq (a := r1.toInt) (b := 4) rfl (by decide +kernel)).mp c13
        refine lv_iconst (v := 1) hx hb dX1_isFitting_99 (by decide +kernel) ?_
        refine lv_goto (tgt := 225) hx hb dX1_isFitting_100 (by decide +kernel) ?_
        exact ro_zret hx hb hr hlocks hS rfl dX1_isFitting_225 ⟨(show 0 ≤ (1 : Int32).toInt ∧ (1 : Int32).toInt ≤ 1 from by decide +kernel), (show Sm (1 : Int32) (Fit f.toInt (c 106 (c 108 w1.toInt.toNat).toNatClampNeg).toInt w2.toInt (c 106 (c 108 w2.toInt.toNat).toNatClampNeg).toInt) from sm_1 ((Fit_1 (by omega)).mpr (by omega)))⟩
  · refine lv_tableIn (off := 96) (tgt := 107) hx hb dX1_isFitting_11 (by omega) (by omega) (by rw [f2]; rfl) (by decide +kernel) ?_
    refine lv_aload_n hx hb dX1_isFitting_107 rfl (lv_at hl 1 rfl) ?_
    refine xgB_B_world hx hb hts (fun _ h => List.mem_cons_of_mem _ (List.mem_append_left _ (List.mem_append_right _ h))) hown hK hP (hts (.fieldLink RX1 43 "TalePlay$Book" "world" "LTalePlay$World;") (List.mem_cons_of_mem _ (List.mem_append_left _ (List.mem_append_left _ (List.mem_append_left _ (List.mem_of_getElem? (i := 0) rfl)))))) dX1_isFitting_108 ?_
    refine lv_iload_n hx hb dX1_isFitting_111 rfl (lv_at hl 3 rfl) ?_
    refine ro_calli (va_runV (As := [.int w1]) (rest := []) ⟨hx, hb, hml, hown, hts⟩ (x_X10_isGoods_e l D H.size .null a t i q c d w1 hI (show 0 ≤ w1.toInt ∧ w1.toInt < ((i 111) : Int32).toInt from by omega)) (cwV 1 hts gm_X1_isFitting_e_X10_isGoods_e_79 rfl rfl rfl (by decide +kernel) ⟨Nat.le_of_ble_eq_true rfl, Nat.le_of_ble_eq_true rfl⟩) (yA_V hN (xZ_k hZ hS hA) (xkB_W hK) (xuB_W (sk := sk) hP) (ci := 10) (q0 := 0) rfl rfl) rfl rfl hl.1 rfl (lv_room (Nat.le_of_ble_eq_true rfl)) dX1_isFitting_112 ⟨Nat.le_of_ble_eq_true rfl, Nat.le_of_ble_eq_true rfl⟩) hS hA hP (fun r14 u14 H locs hw14 hP hS => ?_)
    have hw14 : (((r14.toInt = 1 ∧ (((c 106 (c 108 w1.toInt.toNat).toNatClampNeg).toInt = 1 ∨ 3 ≤ (c 106 (c 108 w1.toInt.toNat).toNatClampNeg).toInt) ∧ ¬ (c 106 (c 108 w1.toInt.toNat).toNatClampNeg).toInt = 5)) ∨ (r14.toInt = 0 ∧ ¬ (((c 106 (c 108 w1.toInt.toNat).toNatClampNeg).toInt = 1 ∨ 3 ≤ (c 106 (c 108 w1.toInt.toNat).toNatClampNeg).toInt) ∧ ¬ (c 106 (c 108 w1.toInt.toNat).toNatClampNeg).toInt = 5)))) := hw14
    refine lv_if_eq (tgt := 128) hx hb dX1_isFitting_115 (by decide +kernel) (fun c15 => ?_) (fun c15 => ?_)
    · have f15 := (ti_eq (a := r14.toInt) (b := 0) rfl (by decide +kernel)).mp c15
      refine lv_iconst (v := 0) hx hb dX1_isFitting_128 (by decide +kernel) ?_
      refine lv_goto (tgt := 225) hx hb dX1_isFitting_129 (by decide +kernel) ?_
      exact ro_zret hx hb hr hlocks hS rfl dX1_isFitting_225 ⟨(show 0 ≤ (0 : Int32).toInt ∧ (0 : Int32).toInt ≤ 1 from by decide +kernel), (show Sm (0 : Int32) (Fit f.toInt (c 106 (c 108 w1.toInt.toNat).toNatClampNeg).toInt w2.toInt (c 106 (c 108 w2.toInt.toNat).toNatClampNeg).toInt) from sm_0 (mt (Fit_2 (by omega)).mp (by omega)))⟩
    · have f15 := mt (ti_eq (a := r14.toInt) (b := 0) rfl (by decide +kernel)).mpr c15
      refine lv_iload hx hb dX1_isFitting_118 (lv_at hl 0 rfl) ?_
      refine lv_iconst (v := 5) hx hb dX1_isFitting_120 (by decide +kernel) ?_
      refine lv_icmp_ne (tgt := 128) hx hb dX1_isFitting_121 (by decide +kernel) (fun c16 => ?_) (fun c16 => ?_)
      · have f16 := mt (ti_eq (a := r1.toInt) (b := 5) rfl (by decide +kernel)).mpr c16
        refine lv_iconst (v := 0) hx hb dX1_isFitting_128 (by decide +kernel) ?_
        refine lv_goto (tgt := 225) hx hb dX1_isFitting_129 (by decide +kernel) ?_
        exact ro_zret hx hb hr hlocks hS rfl dX1_isFitting_225 ⟨(show 0 ≤ (0 : Int32).toInt ∧ (0 : Int32).toInt ≤ 1 from by decide +kernel), (show Sm (0 : Int32) (Fit f.toInt (c 106 (c 108 w1.toInt.toNat).toNatClampNeg).toInt w2.toInt (c 106 (c 108 w2.toInt.toNat).toNatClampNeg).toInt) from sm_0 (mt (Fit_2 (by omega)).mp (by omega)))⟩
      · have f16 := (ti_eq (a := r1.toInt) (b := 5) rfl (by decide +kernel)).mp c16
        refine lv_iconst (v := 1) hx hb dX1_isFitting_124 (by decide +kernel) ?_
        refine lv_goto (tgt := 225) hx hb dX1_isFitting_125 (by decide +kernel) ?_
        exact ro_zret hx hb hr hlocks hS rfl dX1_isFitting_225 ⟨(show 0 ≤ (1 : Int32).toInt ∧ (1 : Int32).toInt ≤ 1 from by decide +kernel), (show Sm (1 : Int32) (Fit f.toInt (c 106 (c 108 w1.toInt.toNat).toNatClampNeg).toInt w2.toInt (c 106 (c 108 w2.toInt.toNat).toNatClampNeg).toInt) from sm_1 ((Fit_2 (by omega)).mpr (by omega)))⟩
  · refine lv_tableIn (off := 96) (tgt := 107) hx hb dX1_isFitting_11 (by omega) (by omega) (by rw [f2]; rfl) (by decide +kernel) ?_
    refine lv_aload_n hx hb dX1_isFitting_107 rfl (lv_at hl 1 rfl) ?_
    refine xgB_B_world hx hb hts (fun _ h => List.mem_cons_of_mem _ (List.mem_append_left _ (List.mem_append_right _ h))) hown hK hP (hts (.fieldLink RX1 43 "TalePlay$Book" "world" "LTalePlay$World;") (List.mem_cons_of_mem _ (List.mem_append_left _ (List.mem_append_left _ (List.mem_append_left _ (List.mem_of_getElem? (i := 0) rfl)))))) dX1_isFitting_108 ?_
    refine lv_iload_n hx hb dX1_isFitting_111 rfl (lv_at hl 3 rfl) ?_
    refine ro_calli (va_runV (As := [.int w1]) (rest := []) ⟨hx, hb, hml, hown, hts⟩ (x_X10_isGoods_e l D H.size .null a t i q c d w1 hI (show 0 ≤ w1.toInt ∧ w1.toInt < ((i 111) : Int32).toInt from by omega)) (cwV 1 hts gm_X1_isFitting_e_X10_isGoods_e_79 rfl rfl rfl (by decide +kernel) ⟨Nat.le_of_ble_eq_true rfl, Nat.le_of_ble_eq_true rfl⟩) (yA_V hN (xZ_k hZ hS hA) (xkB_W hK) (xuB_W (sk := sk) hP) (ci := 10) (q0 := 0) rfl rfl) rfl rfl hl.1 rfl (lv_room (Nat.le_of_ble_eq_true rfl)) dX1_isFitting_112 ⟨Nat.le_of_ble_eq_true rfl, Nat.le_of_ble_eq_true rfl⟩) hS hA hP (fun r17 u17 H locs hw17 hP hS => ?_)
    have hw17 : (((r17.toInt = 1 ∧ (((c 106 (c 108 w1.toInt.toNat).toNatClampNeg).toInt = 1 ∨ 3 ≤ (c 106 (c 108 w1.toInt.toNat).toNatClampNeg).toInt) ∧ ¬ (c 106 (c 108 w1.toInt.toNat).toNatClampNeg).toInt = 5)) ∨ (r17.toInt = 0 ∧ ¬ (((c 106 (c 108 w1.toInt.toNat).toNatClampNeg).toInt = 1 ∨ 3 ≤ (c 106 (c 108 w1.toInt.toNat).toNatClampNeg).toInt) ∧ ¬ (c 106 (c 108 w1.toInt.toNat).toNatClampNeg).toInt = 5)))) := hw17
    refine lv_if_eq (tgt := 128) hx hb dX1_isFitting_115 (by decide +kernel) (fun c18 => ?_) (fun c18 => ?_)
    · have f18 := (ti_eq (a := r17.toInt) (b := 0) rfl (by decide +kernel)).mp c18
      refine lv_iconst (v := 0) hx hb dX1_isFitting_128 (by decide +kernel) ?_
      refine lv_goto (tgt := 225) hx hb dX1_isFitting_129 (by decide +kernel) ?_
      exact ro_zret hx hb hr hlocks hS rfl dX1_isFitting_225 ⟨(show 0 ≤ (0 : Int32).toInt ∧ (0 : Int32).toInt ≤ 1 from by decide +kernel), (show Sm (0 : Int32) (Fit f.toInt (c 106 (c 108 w1.toInt.toNat).toNatClampNeg).toInt w2.toInt (c 106 (c 108 w2.toInt.toNat).toNatClampNeg).toInt) from sm_0 (mt (Fit_3 (by omega)).mp (by omega)))⟩
    · have f18 := mt (ti_eq (a := r17.toInt) (b := 0) rfl (by decide +kernel)).mpr c18
      refine lv_iload hx hb dX1_isFitting_118 (lv_at hl 0 rfl) ?_
      refine lv_iconst (v := 5) hx hb dX1_isFitting_120 (by decide +kernel) ?_
      refine lv_icmp_ne (tgt := 128) hx hb dX1_isFitting_121 (by decide +kernel) (fun c19 => ?_) (fun c19 => ?_)
      · have f19 := mt (ti_eq (a := r1.toInt) (b := 5) rfl (by decide +kernel)).mpr c19
        refine lv_iconst (v := 0) hx hb dX1_isFitting_128 (by decide +kernel) ?_
        refine lv_goto (tgt := 225) hx hb dX1_isFitting_129 (by decide +kernel) ?_
        exact ro_zret hx hb hr hlocks hS rfl dX1_isFitting_225 ⟨(show 0 ≤ (0 : Int32).toInt ∧ (0 : Int32).toInt ≤ 1 from by decide +kernel), (show Sm (0 : Int32) (Fit f.toInt (c 106 (c 108 w1.toInt.toNat).toNatClampNeg).toInt w2.toInt (c 106 (c 108 w2.toInt.toNat).toNatClampNeg).toInt) from sm_0 (mt (Fit_3 (by omega)).mp (by omega)))⟩
      · have f19 := (ti_eq (a := r1.toInt) (b := 5) rfl (by decide +kernel)).mp c19
        refine lv_iconst (v := 1) hx hb dX1_isFitting_124 (by decide +kernel) ?_
        refine lv_goto (tgt := 225) hx hb dX1_isFitting_125 (by decide +kernel) ?_
        exact ro_zret hx hb hr hlocks hS rfl dX1_isFitting_225 ⟨(show 0 ≤ (1 : Int32).toInt ∧ (1 : Int32).toInt ≤ 1 from by decide +kernel), (show Sm (1 : Int32) (Fit f.toInt (c 106 (c 108 w1.toInt.toNat).toNatClampNeg).toInt w2.toInt (c 106 (c 108 w2.toInt.toNat).toNatClampNeg).toInt) from sm_1 ((Fit_3 (by omega)).mpr (by omega)))⟩
  · refine lv_tableIn (off := 121) (tgt := 132) hx hb dX1_isFitting_11 (by omega) (by omega) (by rw [f2]; rfl) (by decide +kernel) ?_
    refine lv_aload_n hx hb dX1_isFitting_132 rfl (lv_at hl 1 rfl) ?_
    refine xgB_B_world hx hb hts (fun _ h => List.mem_cons_of_mem _ (List.mem_append_left _ (List.mem_append_right _ h))) hown hK hP (hts (.fieldLink RX1 43 "TalePlay$Book" "world" "LTalePlay$World;") (List.mem_cons_of_mem _ (List.mem_append_left _ (List.mem_append_left _ (List.mem_append_left _ (List.mem_of_getElem? (i := 0) rfl)))))) dX1_isFitting_133 ?_
    refine lv_iload_n hx hb dX1_isFitting_136 rfl (lv_at hl 3 rfl) ?_
    refine ro_calli (va_runV (As := [.int w1]) (rest := []) ⟨hx, hb, hml, hown, hts⟩ (x_X10_isGoods_e l D H.size .null a t i q c d w1 hI (show 0 ≤ w1.toInt ∧ w1.toInt < ((i 111) : Int32).toInt from by omega)) (cwV 1 hts gm_X1_isFitting_e_X10_isGoods_e_79 rfl rfl rfl (by decide +kernel) ⟨Nat.le_of_ble_eq_true rfl, Nat.le_of_ble_eq_true rfl⟩) (yA_V hN (xZ_k hZ hS hA) (xkB_W hK) (xuB_W (sk := sk) hP) (ci := 10) (q0 := 0) rfl rfl) rfl rfl hl.1 rfl (lv_room (Nat.le_of_ble_eq_true rfl)) dX1_isFitting_137 ⟨Nat.le_of_ble_eq_true rfl, Nat.le_of_ble_eq_true rfl⟩) hS hA hP (fun r20 u20 H locs hw20 hP hS => ?_)
    have hw20 : (((r20.toInt = 1 ∧ (((c 106 (c 108 w1.toInt.toNat).toNatClampNeg).toInt = 1 ∨ 3 ≤ (c 106 (c 108 w1.toInt.toNat).toNatClampNeg).toInt) ∧ ¬ (c 106 (c 108 w1.toInt.toNat).toNatClampNeg).toInt = 5)) ∨ (r20.toInt = 0 ∧ ¬ (((c 106 (c 108 w1.toInt.toNat).toNatClampNeg).toInt = 1 ∨ 3 ≤ (c 106 (c 108 w1.toInt.toNat).toNatClampNeg).toInt) ∧ ¬ (c 106 (c 108 w1.toInt.toNat).toNatClampNeg).toInt = 5)))) := hw20
    refine lv_if_eq (tgt := 152) hx hb dX1_isFitting_140 (by decide +kernel) (fun c21 => ?_) (fun c21 => ?_)
    · have f21 := (ti_eq (a := r20.toInt) (b := 0) rfl (by decide +kernel)).mp c21
      refine lv_iconst (v := 0) hx hb dX1_isFitting_152 (by decide +kernel) ?_
      refine lv_goto (tgt := 225) hx hb dX1_isFitting_153 (by decide +kernel) ?_
      exact ro_zret hx hb hr hlocks hS rfl dX1_isFitting_225 ⟨(show 0 ≤ (0 : Int32).toInt ∧ (0 : Int32).toInt ≤ 1 from by decide +kernel), (show Sm (0 : Int32) (Fit f.toInt (c 106 (c 108 w1.toInt.toNat).toNatClampNeg).toInt w2.toInt (c 106 (c 108 w2.toInt.toNat).toNatClampNeg).toInt) from sm_0 (mt (Fit_4 (by omega)).mp (by omega)))⟩
    · have f21 := mt (ti_eq (a := r20.toInt) (b := 0) rfl (by decide +kernel)).mpr c21
      refine lv_iload hx hb dX1_isFitting_143 (lv_at hl 0 rfl) ?_
      refine lv_if_eq (tgt := 152) hx hb dX1_isFitting_145 (by decide +kernel) (fun c22 => ?_) (fun c22 => ?_)
      · have f22 := (ti_eq (a := r1.toInt) (b := 0) rfl (by decide +kernel)).mp c22
        refine lv_iconst (v := 0) hx hb dX1_isFitting_152 (by decide +kernel) ?_
        refine lv_goto (tgt := 225) hx hb dX1_isFitting_153 (by decide +kernel) ?_
        exact ro_zret hx hb hr hlocks hS rfl dX1_isFitting_225 ⟨(show 0 ≤ (0 : Int32).toInt ∧ (0 : Int32).toInt ≤ 1 from by decide +kernel), (show Sm (0 : Int32) (Fit f.toInt (c 106 (c 108 w1.toInt.toNat).toNatClampNeg).toInt w2.toInt (c 106 (c 108 w2.toInt.toNat).toNatClampNeg).toInt) from sm_0 (mt (Fit_4 (by omega)).mp (by omega)))⟩
      · have f22 := mt (ti_eq (a := r1.toInt) (b := 0) rfl (by decide +kernel)).mpr c22
        refine lv_iconst (v := 1) hx hb dX1_isFitting_148 (by decide +kernel) ?_
        refine lv_goto (tgt := 225) hx hb dX1_isFitting_149 (by decide +kernel) ?_
        exact ro_zret hx hb hr hlocks hS rfl dX1_isFitting_225 ⟨(show 0 ≤ (1 : Int32).toInt ∧ (1 : Int32).toInt ≤ 1 from by decide +kernel), (show Sm (1 : Int32) (Fit f.toInt (c 106 (c 108 w1.toInt.toNat).toNatClampNeg).toInt w2.toInt (c 106 (c 108 w2.toInt.toNat).toNatClampNeg).toInt) from sm_1 ((Fit_4 (by omega)).mpr (by omega)))⟩
  · refine lv_tableIn (off := 145) (tgt := 156) hx hb dX1_isFitting_11 (by omega) (by omega) (by rw [f2]; rfl) (by decide +kernel) ?_
    refine lv_aload_n hx hb dX1_isFitting_156 rfl (lv_at hl 1 rfl) ?_
    refine xgB_B_world hx hb hts (fun _ h => List.mem_cons_of_mem _ (List.mem_append_left _ (List.mem_append_right _ h))) hown hK hP (hts (.fieldLink RX1 43 "TalePlay$Book" "world" "LTalePlay$World;") (List.mem_cons_of_mem _ (List.mem_append_left _ (List.mem_append_left _ (List.mem_append_left _ (List.mem_of_getElem? (i := 0) rfl)))))) dX1_isFitting_157 ?_
    refine lv_iload_n hx hb dX1_isFitting_160 rfl (lv_at hl 3 rfl) ?_
    refine ro_calli (va_runV (As := [.int w1]) (rest := []) ⟨hx, hb, hml, hown, hts⟩ (x_X10_sortOf_e l D H.size .null a t i q c d w1 hI ) (cwV 1 hts gm_X1_isFitting_e_X10_sortOf_e_72 rfl rfl rfl (by decide +kernel) ⟨Nat.le_of_ble_eq_true rfl, Nat.le_of_ble_eq_true rfl⟩) (yA_V hN (xZ_k hZ hS hA) (xkB_W hK) (xuB_W (sk := sk) hP) (ci := 10) (q0 := 0) rfl rfl) rfl rfl hl.1 rfl (lv_room (Nat.le_of_ble_eq_true rfl)) dX1_isFitting_161 ⟨Nat.le_of_ble_eq_true rfl, Nat.le_of_ble_eq_true rfl⟩) hS hA hP (fun r23 u23 H locs hw23 hP hS => ?_)
    have hw23 : (((r23.toInt = -9 ∧ ¬ (0 ≤ w1.toInt ∧ w1.toInt < (i 111).toInt)) ∨ (0 ≤ r23.toInt ∧ r23.toInt ≤ 5 ∧ 0 ≤ w1.toInt ∧ w1.toInt < (i 111).toInt)) ∧ (SO (c 106) (c 108) (i 111).toInt w1.toInt r23.toInt)) := hw23
    obtain ⟨hw23, hr23_0⟩ := hw23
    have hr23_0 : SO (c 106) (c 108) (i 111).toInt w1.toInt r23.toInt := hr23_0
    have hoa : r23.toInt = (c 106 (c 108 w1.toInt.toNat).toNatClampNeg).toInt := by rcases hr23_0 with h9 | h9; (· exact h9.2.2); (· exfalso; omega)
    refine lv_if_ne (tgt := 182) hx hb dX1_isFitting_164 (by decide +kernel) (fun c24 => ?_) (fun c24 => ?_)
    · have f24 := mt (ti_eq (a := r23.toInt) (b := 0) rfl (by decide +kernel)).mpr c24
      refine lv_iconst (v := 0) hx hb dX1_isFitting_182 (by decide +kernel) ?_
      refine lv_goto (tgt := 225) hx hb dX1_isFitting_183 (by decide +kernel) ?_
      exact ro_zret hx hb hr hlocks hS rfl dX1_isFitting_225 ⟨(show 0 ≤ (0 : Int32).toInt ∧ (0 : Int32).toInt ≤ 1 from by decide +kernel), (show Sm (0 : Int32) (Fit f.toInt (c 106 (c 108 w1.toInt.toNat).toNatClampNeg).toInt w2.toInt (c 106 (c 108 w2.toInt.toNat).toNatClampNeg).toInt) from sm_0 (mt (Fit_5 (by omega)).mp (by omega)))⟩
    · have f24 := (ti_eq (a := r23.toInt) (b := 0) rfl (by decide +kernel)).mp c24
      refine lv_iload hx hb dX1_isFitting_167 (lv_at hl 0 rfl) ?_
      refine lv_if_eq (tgt := 178) hx hb dX1_isFitting_169 (by decide +kernel) (fun c25 => ?_) (fun c25 => ?_)
      · have f25 := (ti_eq (a := r1.toInt) (b := 0) rfl (by decide +kernel)).mp c25
        refine lv_iconst (v := 1) hx hb dX1_isFitting_178 (by decide +kernel) ?_
        refine lv_goto (tgt := 225) hx hb dX1_isFitting_179 (by decide +kernel) ?_
        exact ro_zret hx hb hr hlocks hS rfl dX1_isFitting_225 ⟨(show 0 ≤ (1 : Int32).toInt ∧ (1 : Int32).toInt ≤ 1 from by decide +kernel), (show Sm (1 : Int32) (Fit f.toInt (c 106 (c 108 w1.toInt.toNat).toNatClampNeg).toInt w2.toInt (c 106 (c 108 w2.toInt.toNat).toNatClampNeg).toInt) from sm_1 ((Fit_5 (by omega)).mpr (by omega)))⟩
      · have f25 := mt (ti_eq (a := r1.toInt) (b := 0) rfl (by decide +kernel)).mpr c25
        refine lv_iload hx hb dX1_isFitting_172 (lv_at hl 0 rfl) ?_
        refine lv_iconst (v := 2) hx hb dX1_isFitting_174 (by decide +kernel) ?_
        refine lv_icmp_ne (tgt := 182) hx hb dX1_isFitting_175 (by decide +kernel) (fun c26 => ?_) (fun c26 => ?_)
        · have f26 := mt (ti_eq (a := r1.toInt) (b := 2) rfl (by decide +kernel)).mpr c26
          refine lv_iconst (v := 0) hx hb dX1_isFitting_182 (by decide +kernel) ?_
          refine lv_goto (tgt := 225) hx hb dX1_isFitting_183 (by decide +kernel) ?_
          exact ro_zret hx hb hr hlocks hS rfl dX1_isFitting_225 ⟨(show 0 ≤ (0 : Int32).toInt ∧ (0 : Int32).toInt ≤ 1 from by decide +kernel), (show Sm (0 : Int32) (Fit f.toInt (c 106 (c 108 w1.toInt.toNat).toNatClampNeg).toInt w2.toInt (c 106 (c 108 w2.toInt.toNat).toNatClampNeg).toInt) from sm_0 (mt (Fit_5 (by omega)).mp (by omega)))⟩
        · have f26 := (ti_eq (a := r1.toInt) (b := 2) rfl (by decide +kernel)).mp c26
          refine lv_iconst (v := 1) hx hb dX1_isFitting_178 (by decide +kernel) ?_
          refine lv_goto (tgt := 225) hx hb dX1_isFitting_179 (by decide +kernel) ?_
          exact ro_zret hx hb hr hlocks hS rfl dX1_isFitting_225 ⟨(show 0 ≤ (1 : Int32).toInt ∧ (1 : Int32).toInt ≤ 1 from by decide +kernel), (show Sm (1 : Int32) (Fit f.toInt (c 106 (c 108 w1.toInt.toNat).toNatClampNeg).toInt w2.toInt (c 106 (c 108 w2.toInt.toNat).toNatClampNeg).toInt) from sm_1 ((Fit_5 (by omega)).mpr (by omega)))⟩
  · refine lv_tableIn (off := 175) (tgt := 186) hx hb dX1_isFitting_11 (by omega) (by omega) (by rw [f2]; rfl) (by decide +kernel) ?_
    refine lv_aload_n hx hb dX1_isFitting_186 rfl (lv_at hl 1 rfl) ?_
    refine xgB_B_world hx hb hts (fun _ h => List.mem_cons_of_mem _ (List.mem_append_left _ (List.mem_append_right _ h))) hown hK hP (hts (.fieldLink RX1 43 "TalePlay$Book" "world" "LTalePlay$World;") (List.mem_cons_of_mem _ (List.mem_append_left _ (List.mem_append_left _ (List.mem_append_left _ (List.mem_of_getElem? (i := 0) rfl)))))) dX1_isFitting_187 ?_
    refine lv_iload_n hx hb dX1_isFitting_190 rfl (lv_at hl 3 rfl) ?_
    refine lv_iload_n hx hb dX1_isFitting_191 rfl (lv_at hl 4 rfl) ?_
    refine ro_calli (va_runV (As := [.int w1, .int w2]) (rest := []) ⟨hx, hb, hml, hown, hts⟩ (x_X10_canHave_e l D H.size .null a t i q c d w1 w2 hI (show 0 ≤ w1.toInt ∧ w1.toInt < ((i 111) : Int32).toInt from by omega) (show 0 ≤ w2.toInt ∧ w2.toInt ≤ 5 from by omega)) (cwV 2 hts gm_X1_isFitting_e_X10_canHave_e_82 rfl rfl rfl (by decide +kernel) ⟨Nat.le_of_ble_eq_true rfl, Nat.le_of_ble_eq_true rfl⟩) (yA_V hN (xZ_k hZ hS hA) (xkB_W hK) (xuB_W (sk := sk) hP) (ci := 10) (q0 := 0) rfl rfl) rfl rfl hl.1 rfl (lv_room (Nat.le_of_ble_eq_true rfl)) dX1_isFitting_192 ⟨Nat.le_of_ble_eq_true rfl, Nat.le_of_ble_eq_true rfl⟩) hS hA hP (fun r27 u27 H locs hw27 hP hS => ?_)
    have hw27 : (((r27.toInt = 1 ∧ ((w2.toInt ≤ 1 ∧ ((c 106 (c 108 w1.toInt.toNat).toNatClampNeg).toInt = 2 ∨ (c 106 (c 108 w1.toInt.toNat).toNatClampNeg).toInt = 3)) ∨ w2.toInt = 2 ∨ (w2.toInt = 3 ∧ ((c 106 (c 108 w1.toInt.toNat).toNatClampNeg).toInt = 1 ∨ 3 ≤ (c 106 (c 108 w1.toInt.toNat).toNatClampNeg).toInt)) ∨ (w2.toInt = 4 ∧ (((c 106 (c 108 w1.toInt.toNat).toNatClampNeg).toInt = 1 ∨ 3 ≤ (c 106 (c 108 w1.toInt.toNat).toNatClampNeg).toInt) ∧ ¬ (c 106 (c 108 w1.toInt.toNat).toNatClampNeg).toInt = 5)) ∨ (5 ≤ w2.toInt ∧ (c 106 (c 108 w1.toInt.toNat).toNatClampNeg).toInt = 3))) ∨ (r27.toInt = 0 ∧ ¬ ((w2.toInt ≤ 1 ∧ ((c 106 (c 108 w1.toInt.toNat).toNatClampNeg).toInt = 2 ∨ (c 106 (c 108 w1.toInt.toNat).toNatClampNeg).toInt = 3)) ∨ w2.toInt = 2 ∨ (w2.toInt = 3 ∧ ((c 106 (c 108 w1.toInt.toNat).toNatClampNeg).toInt = 1 ∨ 3 ≤ (c 106 (c 108 w1.toInt.toNat).toNatClampNeg).toInt)) ∨ (w2.toInt = 4 ∧ (((c 106 (c 108 w1.toInt.toNat).toNatClampNeg).toInt = 1 ∨ 3 ≤ (c 106 (c 108 w1.toInt.toNat).toNatClampNeg).toInt) ∧ ¬ (c 106 (c 108 w1.toInt.toNat).toNatClampNeg).toInt = 5)) ∨ (5 ≤ w2.toInt ∧ (c 106 (c 108 w1.toInt.toNat).toNatClampNeg).toInt = 3))))) := hw27
    refine lv_goto (tgt := 225) hx hb dX1_isFitting_195 (by decide +kernel) ?_
    exact ro_zret hx hb hr hlocks hS (nb_n (show 0 ≤ r27.toInt ∧ r27.toInt ≤ 1 from by omega)) dX1_isFitting_225 ⟨(show 0 ≤ r27.toInt ∧ r27.toInt ≤ 1 from by omega), (show Sm r27 (Fit f.toInt (c 106 (c 108 w1.toInt.toNat).toNatClampNeg).toInt w2.toInt (c 106 (c 108 w2.toInt.toNat).toNatClampNeg).toInt) from by unfold Sm; rw [propext (Fit_6 (by omega))]; omega)⟩

def wm_X1_standingFor_e : List Cond := .code yX1_standingFor cX1_standingFor 5 (some .int) :: (([.fieldLink RX1 28 "TalePlay$Book" "placeBy" "[I", .fieldLink RX1 31 "TalePlay$Book" "exitBy" "[I", .fieldLink RX1 34 "TalePlay$Book" "flagBy" "[I", .fieldLink RX1 37 "TalePlay$Book" "keyBy" "[I"] : List Cond) ++ wsX10)
set_option maxHeartbeats 4000000 in
set_option maxRecDepth 100000 in
theorem x_X1_standingFor_e (l : Launch) (D : va_G) (sz : Nat) (sk : Value) (a : Nat → Nat) (t : Nat → ClassId) (i : Nat → Int32) (q : Int64) (c : Nat → Nat → Int32) (d : Nat → Nat → Int64) (f : Int32) (w1 : Int32) (w2 : Int32) (w3 : Int32) (hI : xInv i c) (hw1 : 0 ≤ w1.toInt ∧ w1.toInt ≤ 29) (hfl : f.toInt = 6 → 0 ≤ w2.toInt ∧ w2.toInt ≤ 5) (hex : f.toInt = 5 → 0 ≤ w3.toInt ∧ w3.toInt ≤ 9) (hky : f.toInt = 7 → 0 ≤ w2.toInt ∧ w2.toInt ≤ 29) : Met l yX1_standingFor wm_X1_standingFor_e ({ frames := 0, cells := 0, slots := 0, locals := 0 }) (va_Pc [.ref (a 112), .int f, .int w1, .int w2, .int w3] (yA (a 186) D sz (xwB sk a t i q c d) (xtB t))) (va_Qi (fun (r : Int32) (_ : Unit) => ((r.toInt = -9 ∨ (0 ≤ r.toInt ∧ r.toInt ≤ 199)) ∧ (r = sFv (c 118) (c 119) (c 120) (c 121) f.toInt w1.toInt w2.toInt w3.toInt))) oA (ro sz)) 0 0 (ro sz) := by
  refine Met.ofW (cc := cX1_standingFor) (maxL := 5) (ret := (some .int)) (by decide +kernel) rfl ?_
  intro p e s m args below meth cd s₁ B hml hv
  obtain ⟨rfl, ⟨hsz, hP, hK⟩, hN, hZ⟩ := hv
  have hx := B.exec
  have hb := B.bytes
  have hr := B.returns
  have hts := atoms_spec (ws := wm_X1_standingFor_e) B.pre
  have hown : s.vm.findClass RX1 = some m.cls := findClass_of_methodNamed B.named
  have hlocks := B.notSynchronized
  subst hsz
  have hA : ∀ q : Nat, s.heap.size ≤ q → ro s.heap.size q := fun _ h => h
  have hS : va_S (ro s.heap.size) s.heap s.heap [] := va_S.rf
  have hl := lv_entry ([.ref (a 112), .int f, .int w1, .int w2, .int w3]) (n := 5) (Nat.le_of_ble_eq_true rfl)
  rw [lg_entry_eq]
  generalize (lg_sl ([.ref (a 112), .int f, .int w1, .int w2, .int w3]) ++ List.replicate (5 - (lg_sl ([.ref (a 112), .int f, .int w1, .int w2, .int w3])).length) Slot.unset).toArray = ls at hl ⊢
  have hl : lv_has ls 5 [(0, .ref (a 112)), (1, .int f), (2, .int w1), (3, .int w2), (4, .int w3)] := hl
  refine lv_iload_n hx hb dX1_standingFor_0 rfl (lv_at hl 1 rfl) ?_
  rcases (show (f.toInt < 5 ∨ 7 < f.toInt) ∨ f.toInt = 5 ∨ f.toInt = 6 ∨ f.toInt = 7 by omega) with f1 | f1 | f1 | f1
  · refine lv_tableOut (tgt := 66) hx hb dX1_standingFor_1 f1 (by decide +kernel) ?_
    refine lv_aload_n hx hb dX1_standingFor_66 rfl (lv_at hl 0 rfl) ?_
    refine xgB_B_placeBy hx hb hts (fun _ h => List.mem_cons_of_mem _ (List.mem_append_right _ h)) hown hK hP (hts (.fieldLink RX1 28 "TalePlay$Book" "placeBy" "[I") (List.mem_cons_of_mem _ (List.mem_append_left _ (List.mem_of_getElem? (i := 0) rfl)))) dX1_standingFor_67 ?_
    refine lv_iload_n hx hb dX1_standingFor_70 rfl (lv_at hl 2 rfl) ?_
    refine xlB_118 hx hb hK hP (vp_in_iff.mpr (by have h9 : w1.toInt = w1.toInt := rfl; omega)) dX1_standingFor_71 (fun x2 ex2 => ?_)
    have rx2 : x2.toInt = -9 ∨ (0 ≤ x2.toInt ∧ x2.toInt ≤ 199) := by rw [ex2]; exact hI.2 118 _
    exact ro_iret hx hb hr hlocks hS dX1_standingFor_72 ⟨(show x2.toInt = -9 ∨ (0 ≤ x2.toInt ∧ x2.toInt ≤ 199) from by omega), (show x2 = sFv (c 118) (c 119) (c 120) (c 121) f.toInt w1.toInt w2.toInt w3.toInt from by unfold sFv; rw [if_neg (by omega), if_neg (by omega), if_neg (by omega)]; exact ex2)⟩
  · refine lv_tableIn (off := 27) (tgt := 28) hx hb dX1_standingFor_1 (by omega) (by omega) (by rw [f1]; rfl) (by decide +kernel) ?_
    refine lv_aload_n hx hb dX1_standingFor_28 rfl (lv_at hl 0 rfl) ?_
    refine xgB_B_exitBy hx hb hts (fun _ h => List.mem_cons_of_mem _ (List.mem_append_right _ h)) hown hK hP (hts (.fieldLink RX1 31 "TalePlay$Book" "exitBy" "[I") (List.mem_cons_of_mem _ (List.mem_append_left _ (List.mem_of_getElem? (i := 1) rfl)))) dX1_standingFor_29 ?_
    refine lv_iload_n hx hb dX1_standingFor_32 rfl (lv_at hl 2 rfl) ?_
    refine lv_bipush (v := 10) hx hb dX1_standingFor_33 (by decide +kernel) ?_
    refine lv_imul hx hb dX1_standingFor_35 ?_
    refine lv_topi (fun x3 ex3 => ?_)
    have tx3 := ti_mul (a := w1.toInt) (b := 10) ex3 rfl (by decide +kernel) (by omega) (by omega)
    refine lv_iload hx hb dX1_standingFor_36 (lv_at hl 4 rfl) ?_
    refine lv_iadd hx hb dX1_standingFor_38 ?_
    refine lv_topi (fun x4 ex4 => ?_)
    have tx4 := ti_add (a := (w1.toInt * 10)) (b := w3.toInt) ex4 tx3 rfl (by omega) (by omega)
    refine xlB_119 hx hb hK hP (vp_in_iff.mpr (by have h9 : x4.toInt = ((w1.toInt * 10) + w3.toInt) := tx4; omega)) dX1_standingFor_39 (fun x5 ex5 => ?_)
    have rx5 : x5.toInt = -9 ∨ (0 ≤ x5.toInt ∧ x5.toInt ≤ 199) := by rw [ex5]; exact hI.2 119 _
    refine lv_goto (tgt := 72) hx hb dX1_standingFor_40 (by decide +kernel) ?_
    exact ro_iret hx hb hr hlocks hS dX1_standingFor_72 ⟨(show x5.toInt = -9 ∨ (0 ≤ x5.toInt ∧ x5.toInt ≤ 199) from by omega), (show x5 = sFv (c 118) (c 119) (c 120) (c 121) f.toInt w1.toInt w2.toInt w3.toInt from by unfold sFv; rw [if_pos (by omega)]; exact (ix_n (f := c 119) (s := x4) (show (x4 : Int32).toInt = w1.toInt * 10 + w3.toInt from by omega) ex5).symm)⟩
  · refine lv_tableIn (off := 42) (tgt := 43) hx hb dX1_standingFor_1 (by omega) (by omega) (by rw [f1]; rfl) (by decide +kernel) ?_
    refine lv_aload_n hx hb dX1_standingFor_43 rfl (lv_at hl 0 rfl) ?_
    refine xgB_B_flagBy hx hb hts (fun _ h => List.mem_cons_of_mem _ (List.mem_append_right _ h)) hown hK hP (hts (.fieldLink RX1 34 "TalePlay$Book" "flagBy" "[I") (List.mem_cons_of_mem _ (List.mem_append_left _ (List.mem_of_getElem? (i := 2) rfl)))) dX1_standingFor_44 ?_
    refine lv_iload_n hx hb dX1_standingFor_47 rfl (lv_at hl 2 rfl) ?_
    refine lv_bipush (v := 6) hx hb dX1_standingFor_48 (by decide +kernel) ?_
    refine lv_imul hx hb dX1_standingFor_50 ?_
    refine lv_topi (fun x6 ex6 => ?_)
    have tx6 := ti_mul (a := w1.toInt) (b := 6) ex6 rfl (by decide +kernel) (by omega) (by omega)
    refine lv_iload_n hx hb dX1_standingFor_51 rfl (lv_at hl 3 rfl) ?_
    refine lv_iadd hx hb dX1_standingFor_52 ?_
    refine lv_topi (fun x7 ex7 => ?_)
    have tx7 := ti_add (a := (w1.toInt * 6)) (b := w2.toInt) ex7 tx6 rfl (by omega) (by omega)
    refine xlB_120 hx hb hK hP (vp_in_iff.mpr (by have h9 : x7.toInt = ((w1.toInt * 6) + w2.toInt) := tx7; omega)) dX1_standingFor_53 (fun x8 ex8 => ?_)
    have rx8 : x8.toInt = -9 ∨ (0 ≤ x8.toInt ∧ x8.toInt ≤ 199) := by rw [ex8]; exact hI.2 120 _
    refine lv_goto (tgt := 72) hx hb dX1_standingFor_54 (by decide +kernel) ?_
    exact ro_iret hx hb hr hlocks hS dX1_standingFor_72 ⟨(show x8.toInt = -9 ∨ (0 ≤ x8.toInt ∧ x8.toInt ≤ 199) from by omega), (show x8 = sFv (c 118) (c 119) (c 120) (c 121) f.toInt w1.toInt w2.toInt w3.toInt from by unfold sFv; rw [if_neg (by omega), if_pos (by omega)]; exact (ix_n (f := c 120) (s := x7) (show (x7 : Int32).toInt = w1.toInt * 6 + w2.toInt from by omega) ex8).symm)⟩
  · refine lv_tableIn (off := 56) (tgt := 57) hx hb dX1_standingFor_1 (by omega) (by omega) (by rw [f1]; rfl) (by decide +kernel) ?_
    refine lv_aload_n hx hb dX1_standingFor_57 rfl (lv_at hl 0 rfl) ?_
    refine xgB_B_keyBy hx hb hts (fun _ h => List.mem_cons_of_mem _ (List.mem_append_right _ h)) hown hK hP (hts (.fieldLink RX1 37 "TalePlay$Book" "keyBy" "[I") (List.mem_cons_of_mem _ (List.mem_append_left _ (List.mem_of_getElem? (i := 3) rfl)))) dX1_standingFor_58 ?_
    refine lv_iload_n hx hb dX1_standingFor_61 rfl (lv_at hl 3 rfl) ?_
    refine xlB_121 hx hb hK hP (vp_in_iff.mpr (by have h9 : w2.toInt = w2.toInt := rfl; omega)) dX1_standingFor_62 (fun x9 ex9 => ?_)
    have rx9 : x9.toInt = -9 ∨ (0 ≤ x9.toInt ∧ x9.toInt ≤ 199) := by rw [ex9]; exact hI.2 121 _
    refine lv_goto (tgt := 72) hx hb dX1_standingFor_63 (by decide +kernel) ?_
    exact ro_iret hx hb hr hlocks hS dX1_standingFor_72 ⟨(show x9.toInt = -9 ∨ (0 ≤ x9.toInt ∧ x9.toInt ≤ 199) from by omega), (show x9 = sFv (c 118) (c 119) (c 120) (c 121) f.toInt w1.toInt w2.toInt w3.toInt from by unfold sFv; rw [if_neg (by omega), if_neg (by omega), if_pos (by omega)]; exact ex9)⟩

def wm_X1_findSame_e : List Cond := .code yX1_findSame cX1_findSame 7 (some .int) :: (([.methodLink RX1 88 yX1_standingFor, .instanceMethod yX1_standingFor, .selects RX1 yX1_standingFor yX1_standingFor, .initialized RX1, .code yX1_standingFor cX1_standingFor 5 (some .int), .fieldLink RX1 28 "TalePlay$Book" "placeBy" "[I", .fieldLink RX1 31 "TalePlay$Book" "exitBy" "[I", .fieldLink RX1 34 "TalePlay$Book" "flagBy" "[I", .fieldLink RX1 37 "TalePlay$Book" "keyBy" "[I", .fieldLink RX1 9 "TalePlay$Book" "forms" "[I", .fieldLink RX1 15 "TalePlay$Book" "as" "[I", .fieldLink RX1 18 "TalePlay$Book" "bs" "[I", .fieldLink RX1 21 "TalePlay$Book" "cs" "[I"] : List Cond) ++ wsX10)
set_option maxRecDepth 20000 in
theorem gm_X1_findSame_e_X1_standingFor_e_88 : GoodIn wm_X1_findSame_e (wsV RX1 88 RX1 yX1_standingFor wm_X1_standingFor_e) := goodIn_w (List.forall_mem_append.mpr ⟨List.forall_mem_cons.mpr ⟨List.mem_cons_of_mem _ (List.mem_append_left _ (List.mem_of_getElem? (i := 0) rfl)), List.forall_mem_cons.mpr ⟨List.mem_cons_of_mem _ (List.mem_append_left _ (List.mem_of_getElem? (i := 1) rfl)), List.forall_mem_cons.mpr ⟨List.mem_cons_of_mem _ (List.mem_append_left _ (List.mem_of_getElem? (i := 2) rfl)), List.forall_mem_cons.mpr ⟨List.mem_cons_of_mem _ (List.mem_append_left _ (List.mem_of_getElem? (i := 3) rfl)), (fun _ h => absurd h List.not_mem_nil)⟩⟩⟩⟩, List.forall_mem_cons.mpr ⟨List.mem_cons_of_mem _ (List.mem_append_left _ (List.mem_of_getElem? (i := 4) rfl)), List.forall_mem_append.mpr ⟨List.forall_mem_cons.mpr ⟨List.mem_cons_of_mem _ (List.mem_append_left _ (List.mem_of_getElem? (i := 5) rfl)), List.forall_mem_cons.mpr ⟨List.mem_cons_of_mem _ (List.mem_append_left _ (List.mem_of_getElem? (i := 6) rfl)), List.forall_mem_cons.mpr ⟨List.mem_cons_of_mem _ (List.mem_append_left _ (List.mem_of_getElem? (i := 7) rfl)), List.forall_mem_cons.mpr ⟨List.mem_cons_of_mem _ (List.mem_append_left _ (List.mem_of_getElem? (i := 8) rfl)), (fun _ h => absurd h List.not_mem_nil)⟩⟩⟩⟩, (fun _ h => List.mem_cons_of_mem _ (List.mem_append_right _ h))⟩⟩⟩) (by decide +kernel)
set_option maxHeartbeats 4000000 in
set_option maxRecDepth 100000 in
theorem x_X1_findSame_e (l : Launch) (D : va_G) (sz : Nat) (sk : Value) (a : Nat → Nat) (t : Nat → ClassId) (i : Nat → Int32) (q : Int64) (c : Nat → Nat → Int32) (d : Nat → Nat → Int64) (f : Int32) (w1 : Int32) (w2 : Int32) (w3 : Int32) (hI : xInv i c) (hw1 : 0 ≤ w1.toInt ∧ w1.toInt ≤ 29) (hfl : f.toInt = 6 → 0 ≤ w2.toInt ∧ w2.toInt ≤ 5) (hex : f.toInt = 5 → 0 ≤ w3.toInt ∧ w3.toInt ≤ 9) (hky : f.toInt = 7 → 0 ≤ w2.toInt ∧ w2.toInt ≤ 29) : Met l yX1_findSame wm_X1_findSame_e ({ frames := 1, cells := 0, slots := 0, locals := 24 }) (va_Pc [.ref (a 112), .int f, .int w1, .int w2, .int w3] (yA (a 186) D sz (xwB sk a t i q c d) (xtB t))) (va_Qi (fun (r : Int32) (_ : Unit) => ((r.toInt = -9 ∨ (0 ≤ r.toInt ∧ r.toInt ≤ 199)) ∧ ((r.toInt = -9 ∧ ¬ SX (c 113) (c 114) (c 115) (c 116) (sFv (c 118) (c 119) (c 120) (c 121) f.toInt w1.toInt w2.toInt w3.toInt) f.toInt w1.toInt w2.toInt w3.toInt) ∨ (r = sFv (c 118) (c 119) (c 120) (c 121) f.toInt w1.toInt w2.toInt w3.toInt ∧ SX (c 113) (c 114) (c 115) (c 116) (sFv (c 118) (c 119) (c 120) (c 121) f.toInt w1.toInt w2.toInt w3.toInt) f.toInt w1.toInt w2.toInt w3.toInt)))) oA (ro sz)) 0 0 (ro sz) := by
  refine Met.ofW (cc := cX1_findSame) (maxL := 7) (ret := (some .int)) (by decide +kernel) rfl ?_
  intro p e s m args below meth cd s₁ B hml hv
  obtain ⟨rfl, ⟨hsz, hP, hK⟩, hN, hZ⟩ := hv
  have hx := B.exec
  have hb := B.bytes
  have hr := B.returns
  have hts := atoms_spec (ws := wm_X1_findSame_e) B.pre
  have hown : s.vm.findClass RX1 = some m.cls := findClass_of_methodNamed B.named
  have hlocks := B.notSynchronized
  subst hsz
  have hA : ∀ q : Nat, s.heap.size ≤ q → ro s.heap.size q := fun _ h => h
  have hS : va_S (ro s.heap.size) s.heap s.heap [] := va_S.rf
  have hl := lv_entry ([.ref (a 112), .int f, .int w1, .int w2, .int w3]) (n := 7) (Nat.le_of_ble_eq_true rfl)
  rw [lg_entry_eq]
  generalize (lg_sl ([.ref (a 112), .int f, .int w1, .int w2, .int w3]) ++ List.replicate (7 - (lg_sl ([.ref (a 112), .int f, .int w1, .int w2, .int w3])).length) Slot.unset).toArray = ls at hl ⊢
  have hl : lv_has ls 7 [(0, .ref (a 112)), (1, .int f), (2, .int w1), (3, .int w2), (4, .int w3)] := hl
  refine lv_aload_n hx hb dX1_findSame_0 rfl (lv_at hl 0 rfl) ?_
  refine lv_iload_n hx hb dX1_findSame_1 rfl (lv_at hl 1 rfl) ?_
  refine lv_iload_n hx hb dX1_findSame_2 rfl (lv_at hl 2 rfl) ?_
  refine lv_iload_n hx hb dX1_findSame_3 rfl (lv_at hl 3 rfl) ?_
  refine lv_iload hx hb dX1_findSame_4 (lv_at hl 4 rfl) ?_
  refine ro_calli (va_runV (As := [.int f, .int w1, .int w2, .int w3]) (rest := []) ⟨hx, hb, hml, hown, hts⟩ (x_X1_standingFor_e l D s.heap.size .null a t i q c d f w1 w2 w3 hI (show 0 ≤ w1.toInt ∧ w1.toInt ≤ 29 from by omega) (show f.toInt = 6 → 0 ≤ w2.toInt ∧ w2.toInt ≤ 5 from by omega) (show f.toInt = 5 → 0 ≤ w3.toInt ∧ w3.toInt ≤ 9 from by omega) (show f.toInt = 7 → 0 ≤ w2.toInt ∧ w2.toInt ≤ 29 from by omega)) (cwV 4 hts gm_X1_findSame_e_X1_standingFor_e_88 rfl rfl rfl (by decide +kernel) ⟨Nat.le_of_ble_eq_true rfl, Nat.le_of_ble_eq_true rfl⟩) (yA_V hN (xZ_k hZ hS hA) hK hP (ci := 1) (q0 := 6) rfl rfl) rfl rfl hl.1 rfl (lv_room (Nat.le_of_ble_eq_true rfl)) dX1_findSame_6 ⟨Nat.le_of_ble_eq_true rfl, Nat.le_of_ble_eq_true rfl⟩) hS hA hP (fun r1 u1 H locs hw1 hP hS => ?_)
  have hw1 : ((r1.toInt = -9 ∨ (0 ≤ r1.toInt ∧ r1.toInt ≤ 199)) ∧ (r1 = sFv (c 118) (c 119) (c 120) (c 121) f.toInt w1.toInt w2.toInt w3.toInt)) := hw1
  obtain ⟨hw1, hr1_0⟩ := hw1
  have hr1_0 : r1 = sFv (c 118) (c 119) (c 120) (c 121) f.toInt w1.toInt w2.toInt w3.toInt := hr1_0
  refine lv_istore (lv' := [(5, .int r1), (0, .ref (a 112)), (1, .int f), (2, .int w1), (3, .int w2), (4, .int w3)]) hx hb dX1_findSame_9 hl (by decide +kernel) rfl (fun ls hl => ?_)
  refine lv_iload hx hb dX1_findSame_11 (lv_at hl 0 rfl) ?_
  refine lv_bipush (v := (-9)) hx hb dX1_findSame_13 (by decide +kernel) ?_
  refine lv_icmp_eq (tgt := 67) hx hb dX1_findSame_15 (by decide +kernel) (fun c2 => ?_) (fun c2 => ?_)
  · have f2 := (ti_eq (a := r1.toInt) (b := (-9)) rfl (by decide +kernel)).mp c2
    refine lv_iconst (v := 0) hx hb dX1_findSame_67 (by decide +kernel) ?_
    refine lv_istore (lv' := [(6, .int 0), (5, .int r1), (0, .ref (a 112)), (1, .int f), (2, .int w1), (3, .int w2), (4, .int w3)]) hx hb dX1_findSame_68 hl (by decide +kernel) rfl (fun ls hl => ?_)
    refine lv_iload hx hb dX1_findSame_70 (lv_at hl 0 rfl) ?_
    refine lv_if_eq (tgt := 80) hx hb dX1_findSame_72 (by decide +kernel) (fun _ => ?_) (fun q9 => absurd (by decide +kernel) q9)
    refine lv_bipush (v := (-9)) hx hb dX1_findSame_80 (by decide +kernel) ?_
    exact ro_iret hx hb hr hlocks hS dX1_findSame_82 ⟨(show ((-9) : Int32).toInt = -9 ∨ (0 ≤ ((-9) : Int32).toInt ∧ ((-9) : Int32).toInt ≤ 199) from by decide +kernel), (show (((-9) : Int32).toInt = -9 ∧ ¬ SX (c 113) (c 114) (c 115) (c 116) (sFv (c 118) (c 119) (c 120) (c 121) f.toInt w1.toInt w2.toInt w3.toInt) f.toInt w1.toInt w2.toInt w3.toInt) ∨ (((-9) : Int32) = sFv (c 118) (c 119) (c 120) (c 121) f.toInt w1.toInt w2.toInt w3.toInt ∧ SX (c 113) (c 114) (c 115) (c 116) (sFv (c 118) (c 119) (c 120) (c 121) f.toInt w1.toInt w2.toInt w3.toInt) f.toInt w1.toInt w2.toInt w3.toInt) from Or.inl ⟨by decide, by rw [← hr1_0]; unfold SX; omega⟩)⟩
  · have f2 := mt (ti_eq (a := r1.toInt) (b := (-9)) rfl (by decide +kernel)).mpr c2
    refine lv_aload_n hx hb dX1_findSame_18 rfl (lv_at hl 1 rfl) ?_
    refine xgB_B_forms hx hb hts (fun _ h => List.mem_cons_of_mem _ (List.mem_append_right _ h)) hown hK hP (hts (.fieldLink RX1 9 "TalePlay$Book" "forms" "[I") (List.mem_cons_of_mem _ (List.mem_append_left _ (List.mem_of_getElem? (i := 9) rfl)))) dX1_findSame_19 ?_
    refine lv_iload hx hb dX1_findSame_22 (lv_at hl 0 rfl) ?_
    refine xlB_113 hx hb hK hP (vp_in_iff.mpr (by have h9 : r1.toInt = r1.toInt := rfl; omega)) dX1_findSame_24 (fun x3 ex3 => ?_)
    have rx3 : 0 ≤ x3.toInt ∧ x3.toInt ≤ 7 := by rw [ex3]; exact hI.2 113 _
    have gx3 : (c 113 (r1 : Int32).toNatClampNeg).toInt = x3.toInt := (congrArg Int32.toInt ex3).symm
    refine lv_iload_n hx hb dX1_findSame_25 rfl (lv_at hl 2 rfl) ?_
    refine lv_icmp_ne (tgt := 67) hx hb dX1_findSame_26 (by decide +kernel) (fun c4 => ?_) (fun c4 => ?_)
    · have f4 := mt (ti_eq (a := x3.toInt) (b := f.toInt) rfl rfl).mpr c4
      refine lv_iconst (v := 0) hx hb dX1_findSame_67 (by decide +kernel) ?_
      refine lv_istore (lv' := [(6, .int 0), (5, .int r1), (0, .ref (a 112)), (1, .int f), (2, .int w1), (3, .int w2), (4, .int w3)]) hx hb dX1_findSame_68 hl (by decide +kernel) rfl (fun ls hl => ?_)
      refine lv_iload hx hb dX1_findSame_70 (lv_at hl 0 rfl) ?_
      refine lv_if_eq (tgt := 80) hx hb dX1_findSame_72 (by decide +kernel) (fun _ => ?_) (fun q9 => absurd (by decide +kernel) q9)
      refine lv_bipush (v := (-9)) hx hb dX1_findSame_80 (by decide +kernel) ?_
      exact ro_iret hx hb hr hlocks hS dX1_findSame_82 ⟨(show ((-9) : Int32).toInt = -9 ∨ (0 ≤ ((-9) : Int32).toInt ∧ ((-9) : Int32).toInt ≤ 199) from by decide +kernel), (show (((-9) : Int32).toInt = -9 ∧ ¬ SX (c 113) (c 114) (c 115) (c 116) (sFv (c 118) (c 119) (c 120) (c 121) f.toInt w1.toInt w2.toInt w3.toInt) f.toInt w1.toInt w2.toInt w3.toInt) ∨ (((-9) : Int32) = sFv (c 118) (c 119) (c 120) (c 121) f.toInt w1.toInt w2.toInt w3.toInt ∧ SX (c 113) (c 114) (c 115) (c 116) (sFv (c 118) (c 119) (c 120) (c 121) f.toInt w1.toInt w2.toInt w3.toInt) f.toInt w1.toInt w2.toInt w3.toInt) from Or.inl ⟨by decide, by rw [← hr1_0]; unfold SX; omega⟩)⟩
    · have f4 := (ti_eq (a := x3.toInt) (b := f.toInt) rfl rfl).mp c4
      refine lv_aload_n hx hb dX1_findSame_29 rfl (lv_at hl 1 rfl) ?_
      refine xgB_B_as hx hb hts (fun _ h => List.mem_cons_of_mem _ (List.mem_append_right _ h)) hown hK hP (hts (.fieldLink RX1 15 "TalePlay$Book" "as" "[I") (List.mem_cons_of_mem _ (List.mem_append_left _ (List.mem_of_getElem? (i := 10) rfl)))) dX1_findSame_30 ?_
      refine lv_iload hx hb dX1_findSame_33 (lv_at hl 0 rfl) ?_
      refine xlB_114 hx hb hK hP (vp_in_iff.mpr (by have h9 : r1.toInt = r1.toInt := rfl; omega)) dX1_findSame_35 (fun x5 ex5 => ?_)
      have rx5 : 0 ≤ x5.toInt ∧ x5.toInt ≤ 29 := by rw [ex5]; exact hI.2 114 _
      have gx5 : (c 114 (r1 : Int32).toNatClampNeg).toInt = x5.toInt := (congrArg Int32.toInt ex5).symm
      refine lv_iload_n hx hb dX1_findSame_36 rfl (lv_at hl 3 rfl) ?_
      refine lv_icmp_ne (tgt := 67) hx hb dX1_findSame_37 (by decide +kernel) (fun c6 => ?_) (fun c6 => ?_)
      · have f6 := mt (ti_eq (a := x5.toInt) (b := w1.toInt) rfl rfl).mpr c6
        refine lv_iconst (v := 0) hx hb dX1_findSame_67 (by decide +kernel) ?_
        refine lv_istore (lv' := [(6, .int 0), (5, .int r1), (0, .ref (a 112)), (1, .int f), (2, .int w1), (3, .int w2), (4, .int w3)]) hx hb dX1_findSame_68 hl (by decide +kernel) rfl (fun ls hl => ?_)
        refine lv_iload hx hb dX1_findSame_70 (lv_at hl 0 rfl) ?_
        refine lv_if_eq (tgt := 80) hx hb dX1_findSame_72 (by decide +kernel) (fun _ => ?_) (fun q9 => absurd (by decide +kernel) q9)
        refine lv_bipush (v := (-9)) hx hb dX1_findSame_80 (by decide +kernel) ?_
        exact ro_iret hx hb hr hlocks hS dX1_findSame_82 ⟨(show ((-9) : Int32).toInt = -9 ∨ (0 ≤ ((-9) : Int32).toInt ∧ ((-9) : Int32).toInt ≤ 199) from by decide +kernel), (show (((-9) : Int32).toInt = -9 ∧ ¬ SX (c 113) (c 114) (c 115) (c 116) (sFv (c 118) (c 119) (c 120) (c 121) f.toInt w1.toInt w2.toInt w3.toInt) f.toInt w1.toInt w2.toInt w3.toInt) ∨ (((-9) : Int32) = sFv (c 118) (c 119) (c 120) (c 121) f.toInt w1.toInt w2.toInt w3.toInt ∧ SX (c 113) (c 114) (c 115) (c 116) (sFv (c 118) (c 119) (c 120) (c 121) f.toInt w1.toInt w2.toInt w3.toInt) f.toInt w1.toInt w2.toInt w3.toInt) from Or.inl ⟨by decide, by rw [← hr1_0]; unfold SX; omega⟩)⟩
      · have f6 := (ti_eq (a := x5.toInt) (b := w1.toInt) rfl rfl).mp c6
        refine lv_aload_n hx hb dX1_findSame_40 rfl (lv_at hl 1 rfl) ?_
        refine xgB_B_bs hx hb hts (fun _ h => List.mem_cons_of_mem _ (List.mem_append_right _ h)) hown hK hP (hts (.fieldLink RX1 18 "TalePlay$Book" "bs" "[I") (List.mem_cons_of_mem _ (List.mem_append_left _ (List.mem_of_getElem? (i := 11) rfl)))) dX1_findSame_41 ?_
        refine lv_iload hx hb dX1_findSame_44 (lv_at hl 0 rfl) ?_
        refine xlB_115 hx hb hK hP (vp_in_iff.mpr (by have h9 : r1.toInt = r1.toInt := rfl; omega)) dX1_findSame_46 (fun x7 ex7 => ?_)
        have rx7 : 0 ≤ x7.toInt ∧ x7.toInt ≤ 29 := by rw [ex7]; exact hI.2 115 _
        have gx7 : (c 115 (r1 : Int32).toNatClampNeg).toInt = x7.toInt := (congrArg Int32.toInt ex7).symm
        refine lv_iload_n hx hb dX1_findSame_47 rfl (lv_at hl 4 rfl) ?_
        refine lv_icmp_ne (tgt := 67) hx hb dX1_findSame_48 (by decide +kernel) (fun c8 => ?_) (fun c8 => ?_)
        · have f8 := mt (ti_eq (a := x7.toInt) (b := w2.toInt) rfl rfl).mpr c8
          refine lv_iconst (v := 0) hx hb dX1_findSame_67 (by decide +kernel) ?_
          refine lv_istore (lv' := [(6, .int 0), (5, .int r1), (0, .ref (a 112)), (1, .int f), (2, .int w1), (3, .int w2), (4, .int w3)]) hx hb dX1_findSame_68 hl (by decide +kernel) rfl (fun ls hl => ?_)
          refine lv_iload hx hb dX1_findSame_70 (lv_at hl 0 rfl) ?_
          refine lv_if_eq (tgt := 80) hx hb dX1_findSame_72 (by decide +kernel) (fun _ => ?_) (fun q9 => absurd (by decide +kernel) q9)
          refine lv_bipush (v := (-9)) hx hb dX1_findSame_80 (by decide +kernel) ?_
          exact ro_iret hx hb hr hlocks hS dX1_findSame_82 ⟨(show ((-9) : Int32).toInt = -9 ∨ (0 ≤ ((-9) : Int32).toInt ∧ ((-9) : Int32).toInt ≤ 199) from by decide +kernel), (show (((-9) : Int32).toInt = -9 ∧ ¬ SX (c 113) (c 114) (c 115) (c 116) (sFv (c 118) (c 119) (c 120) (c 121) f.toInt w1.toInt w2.toInt w3.toInt) f.toInt w1.toInt w2.toInt w3.toInt) ∨ (((-9) : Int32) = sFv (c 118) (c 119) (c 120) (c 121) f.toInt w1.toInt w2.toInt w3.toInt ∧ SX (c 113) (c 114) (c 115) (c 116) (sFv (c 118) (c 119) (c 120) (c 121) f.toInt w1.toInt w2.toInt w3.toInt) f.toInt w1.toInt w2.toInt w3.toInt) from Or.inl ⟨by decide, by rw [← hr1_0]; unfold SX; omega⟩)⟩
        · have f8 := (ti_eq (a := x7.toInt) (b := w2.toInt) rfl rfl).mp c8
          refine lv_aload_n hx hb dX1_findSame_51 rfl (lv_at hl 1 rfl) ?_
          refine xgB_B_cs hx hb hts (fun _ h => List.mem_cons_of_mem _ (List.mem_append_right _ h)) hown hK hP (hts (.fieldLink RX1 21 "TalePlay$Book" "cs" "[I") (List.mem_cons_of_mem _ (List.mem_append_left _ (List.mem_of_getElem? (i := 12) rfl)))) dX1_findSame_52 ?_
          refine lv_iload hx hb dX1_findSame_55 (lv_at hl 0 rfl) ?_
          refine xlB_116 hx hb hK hP (vp_in_iff.mpr (by have h9 : r1.toInt = r1.toInt := rfl; omega)) dX1_findSame_57 (fun x9 ex9 => ?_)
          have rx9 : 0 ≤ x9.toInt ∧ x9.toInt ≤ 9 := by rw [ex9]; exact hI.2 116 _
          have gx9 : (c 116 (r1 : Int32).toNatClampNeg).toInt = x9.toInt := (congrArg Int32.toInt ex9).symm
          refine lv_iload hx hb dX1_findSame_58 (lv_at hl 5 rfl) ?_
          refine lv_icmp_ne (tgt := 67) hx hb dX1_findSame_60 (by decide +kernel) (fun c10 => ?_) (fun c10 => ?_)
          · have f10 := mt (ti_eq (a := x9.toInt) (b := w3.toInt) rfl rfl).mpr c10
            refine lv_iconst (v := 0) hx hb dX1_findSame_67 (by decide +kernel) ?_
            refine lv_istore (lv' := [(6, .int 0), (5, .int r1), (0, .ref (a 112)), (1, .int f), (2, .int w1), (3, .int w2), (4, .int w3)]) hx hb dX1_findSame_68 hl (by decide +kernel) rfl (fun ls hl => ?_)
            refine lv_iload hx hb dX1_findSame_70 (lv_at hl 0 rfl) ?_
            refine lv_if_eq (tgt := 80) hx hb dX1_findSame_72 (by decide +kernel) (fun _ => ?_) (fun q9 => absurd (by decide +kernel) q9)
            refine lv_bipush (v := (-9)) hx hb dX1_findSame_80 (by decide +kernel) ?_
            exact ro_iret hx hb hr hlocks hS dX1_findSame_82 ⟨(show ((-9) : Int32).toInt = -9 ∨ (0 ≤ ((-9) : Int32).toInt ∧ ((-9) : Int32).toInt ≤ 199) from by decide +kernel), (show (((-9) : Int32).toInt = -9 ∧ ¬ SX (c 113) (c 114) (c 115) (c 116) (sFv (c 118) (c 119) (c 120) (c 121) f.toInt w1.toInt w2.toInt w3.toInt) f.toInt w1.toInt w2.toInt w3.toInt) ∨ (((-9) : Int32) = sFv (c 118) (c 119) (c 120) (c 121) f.toInt w1.toInt w2.toInt w3.toInt ∧ SX (c 113) (c 114) (c 115) (c 116) (sFv (c 118) (c 119) (c 120) (c 121) f.toInt w1.toInt w2.toInt w3.toInt) f.toInt w1.toInt w2.toInt w3.toInt) from Or.inl ⟨by decide, by rw [← hr1_0]; unfold SX; omega⟩)⟩
          · have f10 := (ti_eq (a := x9.toInt) (b := w3.toInt) rfl rfl).mp c10
            refine lv_iconst (v := 1) hx hb dX1_findSame_63 (by decide +kernel) ?_
            refine lv_goto (tgt := 68) hx hb dX1_findSame_64 (by decide +kernel) ?_
            refine lv_istore (lv' := [(6, .int 1), (5, .int r1), (0, .ref (a 112)), (1, .int f), (2, .int w1), (3, .int w2), (4, .int w3)]) hx hb dX1_findSame_68 hl (by decide +kernel) rfl (fun ls hl => ?_)
            refine lv_iload hx hb dX1_findSame_70 (lv_at hl 0 rfl) ?_
            refine lv_if_eq (tgt := 80) hx hb dX1_findSame_72 (by decide +kernel) (fun q9 => absurd q9 (by decide +kernel)) (fun _ => ?_)
            refine lv_iload hx hb dX1_findSame_75 (lv_at hl 1 rfl) ?_
            refine lv_goto (tgt := 82) hx hb dX1_findSame_77 (by decide +kernel) ?_
            exact ro_iret hx hb hr hlocks hS dX1_findSame_82 ⟨(show r1.toInt = -9 ∨ (0 ≤ r1.toInt ∧ r1.toInt ≤ 199) from by omega), (show (r1.toInt = -9 ∧ ¬ SX (c 113) (c 114) (c 115) (c 116) (sFv (c 118) (c 119) (c 120) (c 121) f.toInt w1.toInt w2.toInt w3.toInt) f.toInt w1.toInt w2.toInt w3.toInt) ∨ (r1 = sFv (c 118) (c 119) (c 120) (c 121) f.toInt w1.toInt w2.toInt w3.toInt ∧ SX (c 113) (c 114) (c 115) (c 116) (sFv (c 118) (c 119) (c 120) (c 121) f.toInt w1.toInt w2.toInt w3.toInt) f.toInt w1.toInt w2.toInt w3.toInt) from Or.inr ⟨hr1_0, by rw [← hr1_0]; unfold SX; omega⟩)⟩

def wm_X1_addClash_e : List Cond := .code yX1_addClash cX1_addClash 2 (some .boolean) :: (([.fieldLink RX1 118 "TalePlay$Book" "clashes" "I", .fieldLink RX1 40 "TalePlay$Book" "clashRow" "[I"] : List Cond) ++ wsX10)
set_option maxHeartbeats 4000000 in
set_option maxRecDepth 100000 in
theorem x_X1_addClash_e (l : Launch) (D : va_G) (sz : Nat) (sk : Value) (a : Nat → Nat) (t : Nat → ClassId) (i : Nat → Int32) (q : Int64) (c : Nat → Nat → Int32) (d : Nat → Nat → Int64) (s1 : Int32) (hI : xInv i c) (hs1 : s1.toInt = -9 ∨ (0 ≤ s1.toInt ∧ s1.toInt ≤ 199)) : Met l yX1_addClash wm_X1_addClash_e ({ frames := 0, cells := 0, slots := 0, locals := 0 }) (va_Pc [.ref (a 112), .int s1] (yB (a 186) D sz (xwT sk a t i q c d) (xtT t))) (va_Qi (fun (r : Int32) (u : MS) => ((r.toInt = 0 ∧ (s1.toInt = -9 ∨ 30 ≤ (i 123).toInt)) ∨ (r.toInt = 1 ∧ ¬ s1.toInt = -9 ∧ (i 123).toInt ≤ 29)) ∧ xInv u.1 u.2.2.1 ∧ (∀ k, k ∉ ([123] : List Nat) → u.1 k = i k) ∧ (∀ k, k ∉ ([122] : List Nat) → u.2.2.1 k = c k) ∧ ((u.1 123).toInt = (i 123).toInt + r.toInt) ∧ ((r.toInt = 0 ∧ (u.2.2.1 122) = (c 122)) ∨ (r.toInt = 1 ∧ (u.2.2.1 122) = upd (c 122) (i 123).toNatClampNeg s1))) (oC D (va_A (xwT sk a t i q c d) sz) (fun u : MS => xwT sk a t u.1 u.2.1 u.2.2.1 u.2.2.2) (fun _ => [])) (va_A (xwT sk a t i q c d) sz)) 0 0 (va_A (xwT sk a t i q c d) sz) := by
  refine Met.ofW (cc := cX1_addClash) (maxL := 2) (ret := (some .boolean)) (by decide +kernel) rfl ?_
  intro p e s m args below meth cd s₁ B hml hv
  obtain ⟨rfl, ⟨hsz, hP, hK, hD0⟩, hN, hZ, hBW⟩ := hv
  have hx := B.exec
  have hb := B.bytes
  have hr := B.returns
  have hts := atoms_spec (ws := wm_X1_addClash_e) B.pre
  have hown : s.vm.findClass RX1 = some m.cls := findClass_of_methodNamed B.named
  have hlocks := B.notSynchronized
  subst hsz
  have hD := hD0.self (sz := s.heap.size)
  have hZ := xZ_A hZ hP hBW
  generalize hAe : va_A (xwT sk a t i q c d) s.heap.size = A at hD hZ ⊢
  have hA : ∀ q : Nat, s.heap.size ≤ q → A q := fun q h => by rw [← hAe]; exact Or.inr h
  have hS : va_S A s.heap s.heap [] := va_S.rf
  have hfi : ∀ k, k ∉ ([] : List Nat) → i k = i k := fun _ _ => rfl
  have hfc : ∀ k, k ∉ ([] : List Nat) → c k = c k := fun _ _ => rfl
  have hl := lv_entry ([.ref (a 112), .int s1]) (n := 2) (Nat.le_of_ble_eq_true rfl)
  rw [lg_entry_eq]
  generalize (lg_sl ([.ref (a 112), .int s1]) ++ List.replicate (2 - (lg_sl ([.ref (a 112), .int s1])).length) Slot.unset).toArray = ls at hl ⊢
  have hl : lv_has ls 2 [(0, .ref (a 112)), (1, .int s1)] := hl
  have rb123_i : 0 ≤ (i 123).toInt ∧ (i 123).toInt ≤ 30 := hI.1 123
  refine lv_iload_n hx hb dX1_addClash_0 rfl (lv_at hl 1 rfl) ?_
  refine lv_bipush (v := (-9)) hx hb dX1_addClash_1 (by decide +kernel) ?_
  refine lv_icmp_eq (tgt := 18) hx hb dX1_addClash_3 (by decide +kernel) (fun c1 => ?_) (fun c1 => ?_)
  · have f1 := (ti_eq (a := s1.toInt) (b := (-9)) rfl (by decide +kernel)).mp c1
    refine lv_iconst (v := 0) hx hb dX1_addClash_18 (by decide +kernel) ?_
    exact rw_zret (i, q, c, d) hx hb hr hlocks hS (hK.sub (tys' := []) [] rfl) hP hD rfl dX1_addClash_19 ⟨(show ((0 : Int32).toInt = 0 ∧ (s1.toInt = -9 ∨ 30 ≤ (i 123).toInt)) ∨ ((0 : Int32).toInt = 1 ∧ ¬ s1.toInt = -9 ∧ (i 123).toInt ≤ 29) from by have h9 : (0 : Int32).toInt = 0 := (by decide +kernel); omega), hI, fr_w hfi (by decide +kernel), fr_w hfc (by decide +kernel), (show ((i 123) : Int32).toInt = (i 123).toInt + (0 : Int32).toInt from by have h51 : (0 : Int32).toInt = 0 := (by decide +kernel); omega), (show ((0 : Int32).toInt = 0 ∧ (c 122) = (c 122)) ∨ ((0 : Int32).toInt = 1 ∧ (c 122) = upd (c 122) (i 123).toNatClampNeg s1) from Or.inl ⟨by decide, rfl⟩)⟩
  · have f1 := mt (ti_eq (a := s1.toInt) (b := (-9)) rfl (by decide +kernel)).mpr c1
    refine lv_aload_n hx hb dX1_addClash_6 rfl (lv_at hl 0 rfl) ?_
    refine xgT_B_clashes (v := (i 123)) rfl hx hb hts (fun _ h => List.mem_cons_of_mem _ (List.mem_append_right _ h)) hown hK hP (hts (.fieldLink RX1 118 "TalePlay$Book" "clashes" "I") (List.mem_cons_of_mem _ (List.mem_append_left _ (List.mem_of_getElem? (i := 0) rfl)))) dX1_addClash_7 ?_
    refine lv_aload_n hx hb dX1_addClash_10 rfl (lv_at hl 0 rfl) ?_
    refine xgT_B_clashRow hx hb hts (fun _ h => List.mem_cons_of_mem _ (List.mem_append_right _ h)) hown hK hP (hts (.fieldLink RX1 40 "TalePlay$Book" "clashRow" "[I") (List.mem_cons_of_mem _ (List.mem_append_left _ (List.mem_of_getElem? (i := 1) rfl)))) dX1_addClash_11 ?_
    refine xnT_122 hx hb hK hP dX1_addClash_14 ?_
    refine lv_icmp_lt (tgt := 20) hx hb dX1_addClash_15 (by decide +kernel) (fun c2 => ?_) (fun c2 => ?_)
    · have f2 := (ti_lt (a := (i 123).toInt) (b := 30) rfl (by decide +kernel)).mp c2
      refine lv_aload_n hx hb dX1_addClash_20 rfl (lv_at hl 0 rfl) ?_
      refine xgT_B_clashRow hx hb hts (fun _ h => List.mem_cons_of_mem _ (List.mem_append_right _ h)) hown hK hP (hts (.fieldLink RX1 40 "TalePlay$Book" "clashRow" "[I") (List.mem_cons_of_mem _ (List.mem_append_left _ (List.mem_of_getElem? (i := 1) rfl)))) dX1_addClash_21 ?_
      refine lv_aload_n hx hb dX1_addClash_24 rfl (lv_at hl 0 rfl) ?_
      refine lv_dup hx hb dX1_addClash_25 rfl ?_
      refine xgT_B_clashes (v := (i 123)) rfl hx hb hts (fun _ h => List.mem_cons_of_mem _ (List.mem_append_right _ h)) hown hK hP (hts (.fieldLink RX1 118 "TalePlay$Book" "clashes" "I") (List.mem_cons_of_mem _ (List.mem_append_left _ (List.mem_of_getElem? (i := 0) rfl)))) dX1_addClash_26 ?_
      refine lv_dup_x1 hx hb dX1_addClash_29 rfl rfl ?_
      refine lv_iconst (v := 1) hx hb dX1_addClash_30 (by decide +kernel) ?_
      refine lv_iadd hx hb dX1_addClash_31 ?_
      refine lv_topi (fun x3 ex3 => ?_)
      have tx3 := ti_add (a := (i 123).toInt) (b := 1) ex3 rfl (by decide +kernel) (by omega) (by omega)
      refine xpT_B_clashes hx hb hts (fun _ h => List.mem_cons_of_mem _ (List.mem_append_right _ h)) hown hK hP hD hS (hts (.fieldLink RX1 118 "TalePlay$Book" "clashes" "I") (List.mem_cons_of_mem _ (List.mem_append_left _ (List.mem_of_getElem? (i := 0) rfl)))) rfl rfl dX1_addClash_32 (fun H locs hP hD hS => ?_)
      have hI := xInv_i hI (k := 123) (v := x3) (show 0 ≤ (x3 : Int32).toInt ∧ (x3 : Int32).toInt ≤ 30 from by have h9 : x3.toInt = ((i 123).toInt + 1) := tx3; omega)
      have hfi : ∀ k, k ∉ ([123] : List Nat) → (upd i 123 x3) k = i k := fr_iz hfi (by decide +kernel) (by decide +kernel)
      refine lv_iload_n hx hb dX1_addClash_35 rfl (lv_at hl 1 rfl) ?_
      refine xsT_122 hx hb hK hP hD hS (vp_in_iff.mpr (by have h9 : (i 123).toInt = (i 123).toInt := rfl; omega)) dX1_addClash_36 (fun H locs hP hD hS => ?_)
      have hI := xInv_c hI (k := 122) (j := ((i 123) : Int32).toNatClampNeg) (x := s1) (show 0 ≤ (s1 : Int32).toInt ∧ (s1 : Int32).toInt ≤ 199 from by omega)
      have hfc : ∀ k, k ∉ ([122] : List Nat) → (updA c 122 ((i 123) : Int32).toNatClampNeg s1) k = c k := fr_cz hfc (by decide +kernel) (by decide +kernel)
      refine lv_iconst (v := 1) hx hb dX1_addClash_37 (by decide +kernel) ?_
      exact rw_zret ((upd i 123 x3), q, (updA c 122 ((i 123) : Int32).toNatClampNeg s1), d) hx hb hr hlocks hS (hK.sub (tys' := []) [] rfl) hP hD rfl dX1_addClash_38 ⟨(show ((1 : Int32).toInt = 0 ∧ (s1.toInt = -9 ∨ 30 ≤ (i 123).toInt)) ∨ ((1 : Int32).toInt = 1 ∧ ¬ s1.toInt = -9 ∧ (i 123).toInt ≤ 29) from by have h9 : (1 : Int32).toInt = 1 := (by decide +kernel); omega), hI, fr_w hfi (by decide +kernel), fr_w hfc (by decide +kernel), (show (x3 : Int32).toInt = (i 123).toInt + (1 : Int32).toInt from by have h50 : x3.toInt = ((i 123).toInt + 1) := tx3; have h51 : (1 : Int32).toInt = 1 := (by decide +kernel); omega), (show ((1 : Int32).toInt = 0 ∧ ((updA c 122 ((i 123) : Int32).toNatClampNeg s1) 122) = (c 122)) ∨ ((1 : Int32).toInt = 1 ∧ ((updA c 122 ((i 123) : Int32).toNatClampNeg s1) 122) = upd (c 122) (i 123).toNatClampNeg s1) from Or.inr ⟨by decide, rfl⟩)⟩
    · have f2 := mt (ti_lt (a := (i 123).toInt) (b := 30) rfl (by decide +kernel)).mpr c2
      refine lv_iconst (v := 0) hx hb dX1_addClash_18 (by decide +kernel) ?_
      exact rw_zret (i, q, c, d) hx hb hr hlocks hS (hK.sub (tys' := []) [] rfl) hP hD rfl dX1_addClash_19 ⟨(show ((0 : Int32).toInt = 0 ∧ (s1.toInt = -9 ∨ 30 ≤ (i 123).toInt)) ∨ ((0 : Int32).toInt = 1 ∧ ¬ s1.toInt = -9 ∧ (i 123).toInt ≤ 29) from by have h9 : (0 : Int32).toInt = 0 := (by decide +kernel); omega), hI, fr_w hfi (by decide +kernel), fr_w hfc (by decide +kernel), (show ((i 123) : Int32).toInt = (i 123).toInt + (0 : Int32).toInt from by have h51 : (0 : Int32).toInt = 0 := (by decide +kernel); omega), (show ((0 : Int32).toInt = 0 ∧ (c 122) = (c 122)) ∨ ((0 : Int32).toInt = 1 ∧ (c 122) = upd (c 122) (i 123).toNatClampNeg s1) from Or.inl ⟨by decide, rfl⟩)⟩

def wm_X1_saying_e : List Cond := .code yX1_saying cX1_saying 5 (some .int) :: (([.fieldLink RX1 34 "TalePlay$Book" "flagBy" "[I", .fieldLink RX1 21 "TalePlay$Book" "cs" "[I"] : List Cond) ++ wsX10)
set_option maxHeartbeats 4000000 in
set_option maxRecDepth 100000 in
theorem x_X1_saying_e (l : Launch) (D : va_G) (sz : Nat) (sk : Value) (a : Nat → Nat) (t : Nat → ClassId) (i : Nat → Int32) (q : Int64) (c : Nat → Nat → Int32) (d : Nat → Nat → Int64) (w : Int32) (f : Int32) (v1 : Int32) (hI : xInv i c) (hw : 0 ≤ w.toInt ∧ w.toInt ≤ 29) (hf : 0 ≤ f.toInt ∧ f.toInt ≤ 5) : Met l yX1_saying wm_X1_saying_e ({ frames := 0, cells := 0, slots := 0, locals := 0 }) (va_Pc [.ref (a 112), .int w, .int f, .int v1] (yA (a 186) D sz (xwB sk a t i q c d) (xtB t))) (va_Qi (fun (r : Int32) (_ : Unit) => ((r.toInt = -9 ∨ (0 ≤ r.toInt ∧ r.toInt ≤ 199)) ∧ ((r.toInt = -9 ∧ ¬ SyX (c 120) (c 116) w.toInt f.toInt v1.toInt) ∨ (¬ r.toInt = -9 ∧ r = (c 120 (w.toInt * 6 + f.toInt).toNat) ∧ SyX (c 120) (c 116) w.toInt f.toInt v1.toInt)))) oA (ro sz)) 0 0 (ro sz) := by
  refine Met.ofW (cc := cX1_saying) (maxL := 5) (ret := (some .int)) (by decide +kernel) rfl ?_
  intro p e s m args below meth cd s₁ B hml hv
  obtain ⟨rfl, ⟨hsz, hP, hK⟩, hN, hZ⟩ := hv
  have hx := B.exec
  have hb := B.bytes
  have hr := B.returns
  have hts := atoms_spec (ws := wm_X1_saying_e) B.pre
  have hown : s.vm.findClass RX1 = some m.cls := findClass_of_methodNamed B.named
  have hlocks := B.notSynchronized
  subst hsz
  have hA : ∀ q : Nat, s.heap.size ≤ q → ro s.heap.size q := fun _ h => h
  have hS : va_S (ro s.heap.size) s.heap s.heap [] := va_S.rf
  have hl := lv_entry ([.ref (a 112), .int w, .int f, .int v1]) (n := 5) (Nat.le_of_ble_eq_true rfl)
  rw [lg_entry_eq]
  generalize (lg_sl ([.ref (a 112), .int w, .int f, .int v1]) ++ List.replicate (5 - (lg_sl ([.ref (a 112), .int w, .int f, .int v1])).length) Slot.unset).toArray = ls at hl ⊢
  have hl : lv_has ls 5 [(0, .ref (a 112)), (1, .int w), (2, .int f), (3, .int v1)] := hl
  refine lv_aload_n hx hb dX1_saying_0 rfl (lv_at hl 0 rfl) ?_
  refine xgB_B_flagBy hx hb hts (fun _ h => List.mem_cons_of_mem _ (List.mem_append_right _ h)) hown hK hP (hts (.fieldLink RX1 34 "TalePlay$Book" "flagBy" "[I") (List.mem_cons_of_mem _ (List.mem_append_left _ (List.mem_of_getElem? (i := 0) rfl)))) dX1_saying_1 ?_
  refine lv_iload_n hx hb dX1_saying_4 rfl (lv_at hl 1 rfl) ?_
  refine lv_bipush (v := 6) hx hb dX1_saying_5 (by decide +kernel) ?_
  refine lv_imul hx hb dX1_saying_7 ?_
  refine lv_topi (fun x1 ex1 => ?_)
  have tx1 := ti_mul (a := w.toInt) (b := 6) ex1 rfl (by decide +kernel) (by omega) (by omega)
  refine lv_iload_n hx hb dX1_saying_8 rfl (lv_at hl 2 rfl) ?_
  refine lv_iadd hx hb dX1_saying_9 ?_
  refine lv_topi (fun x2 ex2 => ?_)
  have tx2 := ti_add (a := (w.toInt * 6)) (b := f.toInt) ex2 tx1 rfl (by omega) (by omega)
  refine xlB_120 hx hb hK hP (vp_in_iff.mpr (by have h9 : x2.toInt = ((w.toInt * 6) + f.toInt) := tx2; omega)) dX1_saying_10 (fun x3 ex3 => ?_)
  have rx3 : x3.toInt = -9 ∨ (0 ≤ x3.toInt ∧ x3.toInt ≤ 199) := by rw [ex3]; exact hI.2 120 _
  have gx3 : (c 120 (x2 : Int32).toNatClampNeg).toInt = x3.toInt := (congrArg Int32.toInt ex3).symm
  refine lv_istore (lv' := [(4, .int x3), (0, .ref (a 112)), (1, .int w), (2, .int f), (3, .int v1)]) hx hb dX1_saying_11 hl (by decide +kernel) rfl (fun ls hl => ?_)
  refine lv_iload hx hb dX1_saying_13 (lv_at hl 0 rfl) ?_
  refine lv_bipush (v := (-9)) hx hb dX1_saying_15 (by decide +kernel) ?_
  refine lv_icmp_eq (tgt := 36) hx hb dX1_saying_17 (by decide +kernel) (fun c4 => ?_) (fun c4 => ?_)
  · have f4 := (ti_eq (a := x3.toInt) (b := (-9)) rfl (by decide +kernel)).mp c4
    refine lv_bipush (v := (-9)) hx hb dX1_saying_36 (by decide +kernel) ?_
    exact ro_iret hx hb hr hlocks hS dX1_saying_38 ⟨(show ((-9) : Int32).toInt = -9 ∨ (0 ≤ ((-9) : Int32).toInt ∧ ((-9) : Int32).toInt ≤ 199) from by decide +kernel), (show (((-9) : Int32).toInt = -9 ∧ ¬ SyX (c 120) (c 116) w.toInt f.toInt v1.toInt) ∨ (¬ ((-9) : Int32).toInt = -9 ∧ ((-9) : Int32) = (c 120 (w.toInt * 6 + f.toInt).toNat) ∧ SyX (c 120) (c 116) w.toInt f.toInt v1.toInt) from Or.inl ⟨by decide, by unfold SyX; rw [(ix_n (f := c 120) (s := x2) (show (x2 : Int32).toInt = w.toInt * 6 + f.toInt from by omega) ex3)]; omega⟩)⟩
  · have f4 := mt (ti_eq (a := x3.toInt) (b := (-9)) rfl (by decide +kernel)).mpr c4
    refine lv_aload_n hx hb dX1_saying_20 rfl (lv_at hl 1 rfl) ?_
    refine xgB_B_cs hx hb hts (fun _ h => List.mem_cons_of_mem _ (List.mem_append_right _ h)) hown hK hP (hts (.fieldLink RX1 21 "TalePlay$Book" "cs" "[I") (List.mem_cons_of_mem _ (List.mem_append_left _ (List.mem_of_getElem? (i := 1) rfl)))) dX1_saying_21 ?_
    refine lv_iload hx hb dX1_saying_24 (lv_at hl 0 rfl) ?_
    refine xlB_116 hx hb hK hP (vp_in_iff.mpr (by have h9 : x3.toInt = x3.toInt := rfl; omega)) dX1_saying_26 (fun x5 ex5 => ?_)
    have rx5 : 0 ≤ x5.toInt ∧ x5.toInt ≤ 9 := by rw [ex5]; exact hI.2 116 _
    have gx5 : (c 116 (x3 : Int32).toNatClampNeg).toInt = x5.toInt := (congrArg Int32.toInt ex5).symm
    refine lv_iload_n hx hb dX1_saying_27 rfl (lv_at hl 4 rfl) ?_
    refine lv_icmp_ne (tgt := 36) hx hb dX1_saying_28 (by decide +kernel) (fun c6 => ?_) (fun c6 => ?_)
    · have f6 := mt (ti_eq (a := x5.toInt) (b := v1.toInt) rfl rfl).mpr c6
      refine lv_bipush (v := (-9)) hx hb dX1_saying_36 (by decide +kernel) ?_
      exact ro_iret hx hb hr hlocks hS dX1_saying_38 ⟨(show ((-9) : Int32).toInt = -9 ∨ (0 ≤ ((-9) : Int32).toInt ∧ ((-9) : Int32).toInt ≤ 199) from by decide +kernel), (show (((-9) : Int32).toInt = -9 ∧ ¬ SyX (c 120) (c 116) w.toInt f.toInt v1.toInt) ∨ (¬ ((-9) : Int32).toInt = -9 ∧ ((-9) : Int32) = (c 120 (w.toInt * 6 + f.toInt).toNat) ∧ SyX (c 120) (c 116) w.toInt f.toInt v1.toInt) from Or.inl ⟨by decide, by unfold SyX; rw [(ix_n (f := c 120) (s := x2) (show (x2 : Int32).toInt = w.toInt * 6 + f.toInt from by omega) ex3)]; omega⟩)⟩
    · have f6 := (ti_eq (a := x5.toInt) (b := v1.toInt) rfl rfl).mp c6
      refine lv_iload hx hb dX1_saying_31 (lv_at hl 0 rfl) ?_
      refine lv_goto (tgt := 38) hx hb dX1_saying_33 (by decide +kernel) ?_
      exact ro_iret hx hb hr hlocks hS dX1_saying_38 ⟨(show x3.toInt = -9 ∨ (0 ≤ x3.toInt ∧ x3.toInt ≤ 199) from by omega), (show (x3.toInt = -9 ∧ ¬ SyX (c 120) (c 116) w.toInt f.toInt v1.toInt) ∨ (¬ x3.toInt = -9 ∧ x3 = (c 120 (w.toInt * 6 + f.toInt).toNat) ∧ SyX (c 120) (c 116) w.toInt f.toInt v1.toInt) from Or.inr ⟨by omega, (ix_n (f := c 120) (s := x2) (show (x2 : Int32).toInt = w.toInt * 6 + f.toInt from by omega) ex3).symm, by unfold SyX; rw [(ix_n (f := c 120) (s := x2) (show (x2 : Int32).toInt = w.toInt * 6 + f.toInt from by omega) ex3)]; omega⟩)⟩

def wm_X6_isUp_e : List Cond := .code yX6_isUp cX6_isUp 5 (some .boolean) :: (([.methodLink RX6 25 yX6_holderOf, .instanceMethod yX6_holderOf, .selects RX6 yX6_holderOf yX6_holderOf, .initialized RX6, .code yX6_holderOf cX6_holderOf 3 (some .int), .fieldLink RX6 9 "TalePlay$Scene" "cells" "[I"] : List Cond) ++ wsX60)
set_option maxRecDepth 20000 in
theorem gm_X6_isUp_e_X6_holderOf_BP_25 : GoodIn wm_X6_isUp_e (wsV RX6 25 RX6 yX6_holderOf wm_X6_holderOf_BP) := goodIn_w (List.forall_mem_append.mpr ⟨List.forall_mem_cons.mpr ⟨List.mem_cons_of_mem _ (List.mem_append_left _ (List.mem_of_getElem? (i := 0) rfl)), List.forall_mem_cons.mpr ⟨List.mem_cons_of_mem _ (List.mem_append_left _ (List.mem_of_getElem? (i := 1) rfl)), List.forall_mem_cons.mpr ⟨List.mem_cons_of_mem _ (List.mem_append_left _ (List.mem_of_getElem? (i := 2) rfl)), List.forall_mem_cons.mpr ⟨List.mem_cons_of_mem _ (List.mem_append_left _ (List.mem_of_getElem? (i := 3) rfl)), (fun _ h => absurd h List.not_mem_nil)⟩⟩⟩⟩, List.forall_mem_cons.mpr ⟨List.mem_cons_of_mem _ (List.mem_append_left _ (List.mem_of_getElem? (i := 4) rfl)), List.forall_mem_append.mpr ⟨List.forall_mem_cons.mpr ⟨List.mem_cons_of_mem _ (List.mem_append_left _ (List.mem_of_getElem? (i := 5) rfl)), (fun _ h => absurd h List.not_mem_nil)⟩, (fun _ h => List.mem_cons_of_mem _ (List.mem_append_right _ h))⟩⟩⟩) (by decide +kernel)
set_option maxHeartbeats 4000000 in
set_option maxRecDepth 100000 in
theorem x_X6_isUp_e (l : Launch) (D : va_G) (sz : Nat) (sk : Value) (a : Nat → Nat) (t : Nat → ClassId) (i : Nat → Int32) (q : Int64) (c : Nat → Nat → Int32) (d : Nat → Nat → Int64) (w1 : Int32) (w2 : Int32) (hI : xInv i c) (hw2 : 0 ≤ w2.toInt ∧ w2.toInt ≤ 29) (hw10 : 0 ≤ w1.toInt) (hs_A : Acy (hF (c 127))) : Met l yX6_isUp wm_X6_isUp_e ({ frames := 1, cells := 0, slots := 0, locals := 22 }) (va_Pc [.ref (a 126), .int w1, .int w2] (yA (a 186) D sz (xwP0 sk a t i q c d) (xtP0 t))) (va_Qi (fun (r : Int32) (_ : Unit) => ((0 ≤ r.toInt ∧ r.toInt ≤ 1) ∧ (Sm r (Ch (hF (c 127)) (hF (c 127) w2.toInt) w1.toInt)))) oA (ro sz)) 0 0 (ro sz) := by
  refine Met.ofW (cc := cX6_isUp) (maxL := 5) (ret := (some .boolean)) (by decide +kernel) rfl ?_
  intro p e s m args below meth cd s₁ B hml hv
  obtain ⟨rfl, ⟨hsz, hP, hK⟩, hN, hZ⟩ := hv
  have hx := B.exec
  have hb := B.bytes
  have hr := B.returns
  have hts := atoms_spec (ws := wm_X6_isUp_e) B.pre
  have hown : s.vm.findClass RX6 = some m.cls := findClass_of_methodNamed B.named
  have hlocks := B.notSynchronized
  subst hsz
  have hA : ∀ q : Nat, s.heap.size ≤ q → ro s.heap.size q := fun _ h => h
  have hS : va_S (ro s.heap.size) s.heap s.heap [] := va_S.rf
  have hl := lv_entry ([.ref (a 126), .int w1, .int w2]) (n := 5) (Nat.le_of_ble_eq_true rfl)
  rw [lg_entry_eq]
  generalize (lg_sl ([.ref (a 126), .int w1, .int w2]) ++ List.replicate (5 - (lg_sl ([.ref (a 126), .int w1, .int w2])).length) Slot.unset).toArray = ls at hl ⊢
  have hl : lv_has ls 5 [(0, .ref (a 126)), (1, .int w1), (2, .int w2)] := hl
  obtain ⟨rk, hrk⟩ := hs_A
  refine lv_aload_n hx hb dX6_isUp_0 rfl (lv_at hl 0 rfl) ?_
  refine lv_iload_n hx hb dX6_isUp_1 rfl (lv_at hl 2 rfl) ?_
  refine ro_calli (va_runV (As := [.int w2]) (rest := []) ⟨hx, hb, hml, hown, hts⟩ (x_X6_holderOf_BP l D s.heap.size .null a t i q c d w2 hI (show 0 ≤ w2.toInt ∧ w2.toInt ≤ 29 from by omega)) (cwV 1 hts gm_X6_isUp_e_X6_holderOf_BP_25 rfl rfl rfl (by decide +kernel) ⟨Nat.le_of_ble_eq_true rfl, Nat.le_of_ble_eq_true rfl⟩) (yA_V hN (xZ_k hZ hS hA) hK hP (ci := 6) (q0 := 0) rfl rfl) rfl rfl hl.1 rfl (lv_room (Nat.le_of_ble_eq_true rfl)) dX6_isUp_2 ⟨Nat.le_of_ble_eq_true rfl, Nat.le_of_ble_eq_true rfl⟩) hS hA hP (fun r1 u1 H locs hw1 hP hS => ?_)
  have hw1 : ((r1.toInt = -9 ∧ (c 127 w2.toNatClampNeg).toInt % 256 = 255) ∨ (0 ≤ r1.toInt ∧ r1.toInt ≤ 29 ∧ ¬ (c 127 w2.toNatClampNeg).toInt % 256 = 255 ∧ r1.toInt = (c 127 w2.toNatClampNeg).toInt / 8 % 32)) := hw1
  have hh0 : hF (c 127) w2.toInt = r1.toInt := hF_at (by omega) hw1
  have hk0 := hrk.1 r1.toInt
  refine lv_istore_n (lv' := [(3, .int r1), (0, .ref (a 126)), (1, .int w1), (2, .int w2)]) hx hb dX6_isUp_5 rfl hl (by decide +kernel) rfl (fun ls hl => ?_)
  refine lv_iconst (v := 0) hx hb dX6_isUp_6 (by decide +kernel) ?_
  refine lv_istore (lv' := [(4, .int 0), (3, .int r1), (0, .ref (a 126)), (1, .int w1), (2, .int w2)]) hx hb dX6_isUp_7 hl (by decide +kernel) rfl (fun ls hl => ?_)
  have lp2 : ∀ (fu : Nat) (y2_4 : Int32) (y2_3 : Int32), (0 ≤ y2_4.toInt ∧ y2_4.toInt ≤ 30) → (y2_3.toInt = -9 ∨ (0 ≤ y2_3.toInt ∧ y2_3.toInt ≤ 29)) → (Ch (hF (c 127)) (hF (c 127) w2.toInt) w1.toInt ↔ Ch (hF (c 127)) y2_3.toInt w1.toInt) → (y2_3.toInt = -9 ∨ (rk y2_3.toInt : Int) + y2_4.toInt ≤ 29) → (30 - y2_4.toInt).toNat < fu → ∀ (H : Heap) (locs : List Loc) (ls : Array Slot), va_P D vwCl (xwP0 sk a t i q c d) H → va_S (ro s.heap.size) s.heap H locs → lv_has ls 5 [(4, .int y2_4), (3, .int y2_3), (0, .ref (a 126)), (1, .int w1), (2, .int w2)] → W p l e (headSpec wm_X6_isUp_e ({ frames := 1, cells := 0, slots := 0, locals := 22 })).room s m ([.ref (a 126), .int w1, .int w2] : List Value).toArray below meth cd H locs 0 0 (MQ below (va_Qi (fun (r : Int32) (_ : Unit) => ((0 ≤ r.toInt ∧ r.toInt ≤ 1) ∧ (Sm r (Ch (hF (c 127)) (hF (c 127) w2.toInt) w1.toInt)))) oA (ro s.heap.size)) ([.ref (a 126), .int w1, .int w2] : List Value).toArray s 0 0 (ro s.heap.size)) (F0 m 9 ls []) := by
    intro fu
    induction fu with
    | zero => intro y2_4 y2_3 hy2_4 hy2_3 hz2_0 hz2_1 hm; exact absurd hm (Nat.not_lt_zero _)
    | succ fu ih =>
      intro y2_4 y2_3 hy2_4 hy2_3 hz2_0 hz2_1 hm H locs ls hP hS hl
      have ih2 := ih
      refine lv_iload hx hb dX6_isUp_9 (lv_at hl 0 rfl) ?_
      refine lv_bipush (v := 30) hx hb dX6_isUp_11 (by decide +kernel) ?_
      refine lv_icmp_ge (tgt := 41) hx hb dX6_isUp_13 (by decide +kernel) (fun c3 => ?_) (fun c3 => ?_)
      · have f3 := (ti_le (a := 30) (b := y2_4.toInt) (by decide +kernel) rfl).mp c3
        refine lv_iconst (v := 0) hx hb dX6_isUp_41 (by decide +kernel) ?_
        exact ro_zret hx hb hr hlocks hS rfl dX6_isUp_42 ⟨(show 0 ≤ (0 : Int32).toInt ∧ (0 : Int32).toInt ≤ 1 from by decide +kernel), (show Sm (0 : Int32) (Ch (hF (c 127)) (hF (c 127) w2.toInt) w1.toInt) from sm_0 (fun h9 => by have h8 := hz2_0.mp h9; rw [show y2_3.toInt = -9 by omega] at h8; have h7 := Ch_nd hF_9 h8; omega))⟩
      · have f3 := mt (ti_le (a := 30) (b := y2_4.toInt) (by decide +kernel) rfl).mpr c3
        refine lv_iload_n hx hb dX6_isUp_16 rfl (lv_at hl 1 rfl) ?_
        refine lv_bipush (v := (-9)) hx hb dX6_isUp_17 (by decide +kernel) ?_
        refine lv_icmp_eq (tgt := 41) hx hb dX6_isUp_19 (by decide +kernel) (fun c4 => ?_) (fun c4 => ?_)
        · have f4 := (ti_eq (a := y2_3.toInt) (b := (-9)) rfl (by decide +kernel)).mp c4
          refine lv_iconst (v := 0) hx hb dX6_isUp_41 (by decide +kernel) ?_
          exact ro_zret hx hb hr hlocks hS rfl dX6_isUp_42 ⟨(show 0 ≤ (0 : Int32).toInt ∧ (0 : Int32).toInt ≤ 1 from by decide +kernel), (show Sm (0 : Int32) (Ch (hF (c 127)) (hF (c 127) w2.toInt) w1.toInt) from sm_0 (fun h9 => by have h8 := hz2_0.mp h9; rw [show y2_3.toInt = -9 by omega] at h8; have h7 := Ch_nd hF_9 h8; omega))⟩
        · have f4 := mt (ti_eq (a := y2_3.toInt) (b := (-9)) rfl (by decide +kernel)).mpr c4
          refine lv_iload_n hx hb dX6_isUp_22 rfl (lv_at hl 1 rfl) ?_
          refine lv_iload_n hx hb dX6_isUp_23 rfl (lv_at hl 3 rfl) ?_
          refine lv_icmp_ne (tgt := 29) hx hb dX6_isUp_24 (by decide +kernel) (fun c5 => ?_) (fun c5 => ?_)
          · have f5 := mt (ti_eq (a := y2_3.toInt) (b := w1.toInt) rfl rfl).mpr c5
            refine lv_aload_n hx hb dX6_isUp_29 rfl (lv_at hl 2 rfl) ?_
            refine lv_iload_n hx hb dX6_isUp_30 rfl (lv_at hl 1 rfl) ?_
            refine ro_calli (va_runV (As := [.int y2_3]) (rest := []) ⟨hx, hb, hml, hown, hts⟩ (x_X6_holderOf_BP l D H.size .null a t i q c d y2_3 hI (show 0 ≤ y2_3.toInt ∧ y2_3.toInt ≤ 29 from by omega)) (cwV 1 hts gm_X6_isUp_e_X6_holderOf_BP_25 rfl rfl rfl (by decide +kernel) ⟨Nat.le_of_ble_eq_true rfl, Nat.le_of_ble_eq_true rfl⟩) (yA_V hN (xZ_k hZ hS hA) hK hP (ci := 6) (q0 := 0) rfl rfl) rfl rfl hl.1 rfl (lv_room (Nat.le_of_ble_eq_true rfl)) dX6_isUp_31 ⟨Nat.le_of_ble_eq_true rfl, Nat.le_of_ble_eq_true rfl⟩) hS hA hP (fun r6 u6 H locs hw6 hP hS => ?_)
            have hw6 : ((r6.toInt = -9 ∧ (c 127 y2_3.toNatClampNeg).toInt % 256 = 255) ∨ (0 ≤ r6.toInt ∧ r6.toInt ≤ 29 ∧ ¬ (c 127 y2_3.toNatClampNeg).toInt % 256 = 255 ∧ r6.toInt = (c 127 y2_3.toNatClampNeg).toInt / 8 % 32)) := hw6
            have hh1 : hF (c 127) y2_3.toInt = r6.toInt := hF_at (by omega) hw6
            have hk1 : r6.toInt = -9 ∨ rk r6.toInt < rk y2_3.toInt := by by_cases q9 : r6.toInt = -9; (· exact Or.inl q9); (· have h8 := hrk.2 y2_3.toInt (by omega) (by omega) (by rw [hh1]; exact q9); rw [hh1] at h8; exact Or.inr h8)
            refine lv_istore_n (lv' := [(3, .int r6), (4, .int y2_4), (0, .ref (a 126)), (1, .int w1), (2, .int w2)]) hx hb dX6_isUp_34 rfl hl (by decide +kernel) rfl (fun ls hl => ?_)
            obtain ⟨x7, ex7⟩ : ∃ y : Int32, y = y2_4 + 1 := ⟨_, rfl⟩
            have tx7 := ti_add (a := y2_4.toInt) (b := 1) ex7 rfl (by decide +kernel) (by omega) (by omega)
            refine lv_iinc (v := x7) (lv' := [(4, .int x7), (3, .int r6), (0, .ref (a 126)), (1, .int w1), (2, .int w2)]) hx hb dX6_isUp_35 hl (k := 1) rfl (by rw [ex7]; rfl) (by decide +kernel) rfl (fun ls hl => ?_)
            refine lv_goto (tgt := 9) hx hb dX6_isUp_38 (by decide +kernel) ?_
            exact ih2 x7 r6 (show 0 ≤ x7.toInt ∧ x7.toInt ≤ 30 from by have h50 : x7.toInt = (y2_4.toInt + 1) := tx7; omega) (show r6.toInt = -9 ∨ (0 ≤ r6.toInt ∧ r6.toInt ≤ 29) from by have h50 : x7.toInt = (y2_4.toInt + 1) := tx7; omega) (show Ch (hF (c 127)) (hF (c 127) w2.toInt) w1.toInt ↔ Ch (hF (c 127)) r6.toInt w1.toInt from hz2_0.trans (by rw [Ch_nx (f := hF (c 127)) (x := y2_3.toInt) (by omega), hh1])) (show r6.toInt = -9 ∨ (rk r6.toInt : Int) + x7.toInt ≤ 29 from by have h50 : x7.toInt = (y2_4.toInt + 1) := tx7; omega) (by have h50 : x7.toInt = (y2_4.toInt + 1) := tx7; omega) _ _ _ hP hS (lv_sub hl [0, 1, 2, 3, 4] rfl)
          · have f5 := (ti_eq (a := y2_3.toInt) (b := w1.toInt) rfl rfl).mp c5
            refine lv_iconst (v := 1) hx hb dX6_isUp_27 (by decide +kernel) ?_
            exact ro_zret hx hb hr hlocks hS rfl dX6_isUp_28 ⟨(show 0 ≤ (1 : Int32).toInt ∧ (1 : Int32).toInt ≤ 1 from by decide +kernel), (show Sm (1 : Int32) (Ch (hF (c 127)) (hF (c 127) w2.toInt) w1.toInt) from sm_1 (hz2_0.mpr (by rw [show y2_3.toInt = w1.toInt by omega]; exact Ch_rf)))⟩
  exact lp2 _ (0 : Int32) r1 (show 0 ≤ (0 : Int32).toInt ∧ (0 : Int32).toInt ≤ 30 from by decide +kernel) (show r1.toInt = -9 ∨ (0 ≤ r1.toInt ∧ r1.toInt ≤ 29) from by have h50 : (0 : Int32).toInt = 0 := (by decide +kernel); omega) (show Ch (hF (c 127)) (hF (c 127) w2.toInt) w1.toInt ↔ Ch (hF (c 127)) r1.toInt w1.toInt from by rw [hh0]) (show r1.toInt = -9 ∨ (rk r1.toInt : Int) + (0 : Int32).toInt ≤ 29 from by have h50 : (0 : Int32).toInt = 0 := (by decide +kernel); omega) (Nat.lt_succ_self _) _ _ _ hP hS (lv_sub hl [0, 1, 2, 3, 4] rfl)

def wm_X1_isPlaceClashing_e : List Cond := .code yX1_isPlaceClashing cX1_isPlaceClashing 4 (some .boolean) :: ((([.fieldLink RX1 52 "TalePlay$Book" "places" "LTalePlay$Scene;", .methodLink RX1 134 yX6_isUp, .instanceMethod yX6_isUp, .selects RX6 yX6_isUp yX6_isUp, .initialized RX6, .code yX6_isUp cX6_isUp 5 (some .boolean), .methodLink RX6 25 yX6_holderOf, .instanceMethod yX6_holderOf, .selects RX6 yX6_holderOf yX6_holderOf, .code yX6_holderOf cX6_holderOf 3 (some .int), .fieldLink RX6 9 "TalePlay$Scene" "cells" "[I", .methodLink RX1 140 yX1_saying, .instanceMethod yX1_saying, .selects RX1 yX1_saying yX1_saying, .initialized RX1, .code yX1_saying cX1_saying 5 (some .int)] : List Cond) ++ ([.fieldLink RX1 34 "TalePlay$Book" "flagBy" "[I", .fieldLink RX1 21 "TalePlay$Book" "cs" "[I", .methodLink RX1 121 yX1_addClash, .instanceMethod yX1_addClash, .selects RX1 yX1_addClash yX1_addClash, .code yX1_addClash cX1_addClash 2 (some .boolean), .fieldLink RX1 118 "TalePlay$Book" "clashes" "I", .fieldLink RX1 40 "TalePlay$Book" "clashRow" "[I", .methodLink RX1 137 yX1_addChain, .instanceMethod yX1_addChain, .selects RX1 yX1_addChain yX1_addChain, .code yX1_addChain cX1_addChain 5 none, .fieldLink RX1 28 "TalePlay$Book" "placeBy" "[I", .methodLink RX1 143 yX6_holderOf] : List Cond)) ++ wsX10 ++ wsX60)
set_option maxRecDepth 20000 in
theorem gm_X1_isPlaceClashing_e_X6_isUp_e_134 : GoodIn wm_X1_isPlaceClashing_e (wsV RX1 134 RX6 yX6_isUp wm_X6_isUp_e) := goodIn_w (List.forall_mem_append.mpr ⟨List.forall_mem_cons.mpr ⟨List.mem_cons_of_mem _ (List.mem_append_left _ (List.mem_append_left _ (List.mem_append_left _ (List.mem_of_getElem? (i := 1) rfl)))), List.forall_mem_cons.mpr ⟨List.mem_cons_of_mem _ (List.mem_append_left _ (List.mem_append_left _ (List.mem_append_left _ (List.mem_of_getElem? (i := 2) rfl)))), List.forall_mem_cons.mpr ⟨List.mem_cons_of_mem _ (List.mem_append_left _ (List.mem_append_left _ (List.mem_append_left _ (List.mem_of_getElem? (i := 3) rfl)))), List.forall_mem_cons.mpr ⟨List.mem_cons_of_mem _ (List.mem_append_left _ (List.mem_append_left _ (List.mem_append_left _ (List.mem_of_getElem? (i := 4) rfl)))), (fun _ h => absurd h List.not_mem_nil)⟩⟩⟩⟩, List.forall_mem_cons.mpr ⟨List.mem_cons_of_mem _ (List.mem_append_left _ (List.mem_append_left _ (List.mem_append_left _ (List.mem_of_getElem? (i := 5) rfl)))), List.forall_mem_append.mpr ⟨List.forall_mem_cons.mpr ⟨List.mem_cons_of_mem _ (List.mem_append_left _ (List.mem_append_left _ (List.mem_append_left _ (List.mem_of_getElem? (i := 6) rfl)))), List.forall_mem_cons.mpr ⟨List.mem_cons_of_mem _ (List.mem_append_left _ (List.mem_append_left _ (List.mem_append_left _ (List.mem_of_getElem? (i := 7) rfl)))), List.forall_mem_cons.mpr ⟨List.mem_cons_of_mem _ (List.mem_append_left _ (List.mem_append_left _ (List.mem_append_left _ (List.mem_of_getElem? (i := 8) rfl)))), List.forall_mem_cons.mpr ⟨List.mem_cons_of_mem _ (List.mem_append_left _ (List.mem_append_left _ (List.mem_append_left _ (List.mem_of_getElem? (i := 4) rfl)))), List.forall_mem_cons.mpr ⟨List.mem_cons_of_mem _ (List.mem_append_left _ (List.mem_append_left _ (List.mem_append_left _ (List.mem_of_getElem? (i := 9) rfl)))), List.forall_mem_cons.mpr ⟨List.mem_cons_of_mem _ (List.mem_append_left _ (List.mem_append_left _ (List.mem_append_left _ (List.mem_of_getElem? (i := 10) rfl)))), (fun _ h => absurd h List.not_mem_nil)⟩⟩⟩⟩⟩⟩, (fun _ h => List.mem_cons_of_mem _ (List.mem_append_right _ h))⟩⟩⟩) (by decide +kernel)
set_option maxRecDepth 20000 in
theorem gm_X1_isPlaceClashing_e_X1_saying_e_140 : GoodIn wm_X1_isPlaceClashing_e (wsV RX1 140 RX1 yX1_saying wm_X1_saying_e) := goodIn_w (List.forall_mem_append.mpr ⟨List.forall_mem_cons.mpr ⟨List.mem_cons_of_mem _ (List.mem_append_left _ (List.mem_append_left _ (List.mem_append_left _ (List.mem_of_getElem? (i := 11) rfl)))), List.forall_mem_cons.mpr ⟨List.mem_cons_of_mem _ (List.mem_append_left _ (List.mem_append_left _ (List.mem_append_left _ (List.mem_of_getElem? (i := 12) rfl)))), List.forall_mem_cons.mpr ⟨List.mem_cons_of_mem _ (List.mem_append_left _ (List.mem_append_left _ (List.mem_append_left _ (List.mem_of_getElem? (i := 13) rfl)))), List.forall_mem_cons.mpr ⟨List.mem_cons_of_mem _ (List.mem_append_left _ (List.mem_append_left _ (List.mem_append_left _ (List.mem_of_getElem? (i := 14) rfl)))), (fun _ h => absurd h List.not_mem_nil)⟩⟩⟩⟩, List.forall_mem_cons.mpr ⟨List.mem_cons_of_mem _ (List.mem_append_left _ (List.mem_append_left _ (List.mem_append_left _ (List.mem_of_getElem? (i := 15) rfl)))), List.forall_mem_append.mpr ⟨List.forall_mem_cons.mpr ⟨List.mem_cons_of_mem _ (List.mem_append_left _ (List.mem_append_left _ (List.mem_append_right _ (List.mem_of_getElem? (i := 0) rfl)))), List.forall_mem_cons.mpr ⟨List.mem_cons_of_mem _ (List.mem_append_left _ (List.mem_append_left _ (List.mem_append_right _ (List.mem_of_getElem? (i := 1) rfl)))), (fun _ h => absurd h List.not_mem_nil)⟩⟩, (fun _ h => List.mem_cons_of_mem _ (List.mem_append_left _ (List.mem_append_right _ h)))⟩⟩⟩) (by decide +kernel)
set_option maxRecDepth 20000 in
theorem gm_X1_isPlaceClashing_e_X1_addClash_e_121 : GoodIn wm_X1_isPlaceClashing_e (wsV RX1 121 RX1 yX1_addClash wm_X1_addClash_e) := goodIn_w (List.forall_mem_append.mpr ⟨List.forall_mem_cons.mpr ⟨List.mem_cons_of_mem _ (List.mem_append_left _ (List.mem_append_left _ (List.mem_append_right _ (List.mem_of_getElem? (i := 2) rfl)))), List.forall_mem_cons.mpr ⟨List.mem_cons_of_mem _ (List.mem_append_left _ (List.mem_append_left _ (List.mem_append_right _ (List.mem_of_getElem? (i := 3) rfl)))), List.forall_mem_cons.mpr ⟨List.mem_cons_of_mem _ (List.mem_append_left _ (List.mem_append_left _ (List.mem_append_right _ (List.mem_of_getElem? (i := 4) rfl)))), List.forall_mem_cons.mpr ⟨List.mem_cons_of_mem _ (List.mem_append_left _ (List.mem_append_left _ (List.mem_append_left _ (List.mem_of_getElem? (i := 14) rfl)))), (fun _ h => absurd h List.not_mem_nil)⟩⟩⟩⟩, List.forall_mem_cons.mpr ⟨List.mem_cons_of_mem _ (List.mem_append_left _ (List.mem_append_left _ (List.mem_append_right _ (List.mem_of_getElem? (i := 5) rfl)))), List.forall_mem_append.mpr ⟨List.forall_mem_cons.mpr ⟨List.mem_cons_of_mem _ (List.mem_append_left _ (List.mem_append_left _ (List.mem_append_right _ (List.mem_of_getElem? (i := 6) rfl)))), List.forall_mem_cons.mpr ⟨List.mem_cons_of_mem _ (List.mem_append_left _ (List.mem_append_left _ (List.mem_append_right _ (List.mem_of_getElem? (i := 7) rfl)))), (fun _ h => absurd h List.not_mem_nil)⟩⟩, (fun _ h => List.mem_cons_of_mem _ (List.mem_append_left _ (List.mem_append_right _ h)))⟩⟩⟩) (by decide +kernel)
set_option maxRecDepth 20000 in
theorem gm_X1_isPlaceClashing_e_X1_addChain_137 : GoodIn wm_X1_isPlaceClashing_e (wsV RX1 137 RX1 yX1_addChain wm_X1_addChain) := goodIn_w (List.forall_mem_append.mpr ⟨List.forall_mem_cons.mpr ⟨List.mem_cons_of_mem _ (List.mem_append_left _ (List.mem_append_left _ (List.mem_append_right _ (List.mem_of_getElem? (i := 8) rfl)))), List.forall_mem_cons.mpr ⟨List.mem_cons_of_mem _ (List.mem_append_left _ (List.mem_append_left _ (List.mem_append_right _ (List.mem_of_getElem? (i := 9) rfl)))), List.forall_mem_cons.mpr ⟨List.mem_cons_of_mem _ (List.mem_append_left _ (List.mem_append_left _ (List.mem_append_right _ (List.mem_of_getElem? (i := 10) rfl)))), List.forall_mem_cons.mpr ⟨List.mem_cons_of_mem _ (List.mem_append_left _ (List.mem_append_left _ (List.mem_append_left _ (List.mem_of_getElem? (i := 14) rfl)))), (fun _ h => absurd h List.not_mem_nil)⟩⟩⟩⟩, List.forall_mem_cons.mpr ⟨List.mem_cons_of_mem _ (List.mem_append_left _ (List.mem_append_left _ (List.mem_append_right _ (List.mem_of_getElem? (i := 11) rfl)))), List.forall_mem_append.mpr ⟨List.forall_mem_append.mpr ⟨List.forall_mem_cons.mpr ⟨List.mem_cons_of_mem _ (List.mem_append_left _ (List.mem_append_left _ (List.mem_append_right _ (List.mem_of_getElem? (i := 12) rfl)))), List.forall_mem_cons.mpr ⟨List.mem_cons_of_mem _ (List.mem_append_left _ (List.mem_append_left _ (List.mem_append_right _ (List.mem_of_getElem? (i := 2) rfl)))), List.forall_mem_cons.mpr ⟨List.mem_cons_of_mem _ (List.mem_append_left _ (List.mem_append_left _ (List.mem_append_right _ (List.mem_of_getElem? (i := 3) rfl)))), List.forall_mem_cons.mpr ⟨List.mem_cons_of_mem _ (List.mem_append_left _ (List.mem_append_left _ (List.mem_append_right _ (List.mem_of_getElem? (i := 4) rfl)))), List.forall_mem_cons.mpr ⟨List.mem_cons_of_mem _ (List.mem_append_left _ (List.mem_append_left _ (List.mem_append_left _ (List.mem_of_getElem? (i := 14) rfl)))), List.forall_mem_cons.mpr ⟨List.mem_cons_of_mem _ (List.mem_append_left _ (List.mem_append_left _ (List.mem_append_right _ (List.mem_of_getElem? (i := 5) rfl)))), List.forall_mem_cons.mpr ⟨List.mem_cons_of_mem _ (List.mem_append_left _ (List.mem_append_left _ (List.mem_append_right _ (List.mem_of_getElem? (i := 6) rfl)))), List.forall_mem_cons.mpr ⟨List.mem_cons_of_mem _ (List.mem_append_left _ (List.mem_append_left _ (List.mem_append_right _ (List.mem_of_getElem? (i := 7) rfl)))), List.forall_mem_cons.mpr ⟨List.mem_cons_of_mem _ (List.mem_append_left _ (List.mem_append_left _ (List.mem_append_left _ (List.mem_of_getElem? (i := 0) rfl)))), List.forall_mem_cons.mpr ⟨List.mem_cons_of_mem _ (List.mem_append_left _ (List.mem_append_left _ (List.mem_append_right _ (List.mem_of_getElem? (i := 13) rfl)))), List.forall_mem_cons.mpr ⟨List.mem_cons_of_mem _ (List.mem_append_left _ (List.mem_append_left _ (List.mem_append_left _ (List.mem_of_getElem? (i := 7) rfl)))), List.forall_mem_cons.mpr ⟨List.mem_cons_of_mem _ (List.mem_append_left _ (List.mem_append_left _ (List.mem_append_left _ (List.mem_of_getElem? (i := 8) rfl)))), List.forall_mem_cons.mpr ⟨List.mem_cons_of_mem _ (List.mem_append_left _ (List.mem_append_left _ (List.mem_append_left _ (List.mem_of_getElem? (i := 4) rfl)))), List.forall_mem_cons.mpr ⟨List.mem_cons_of_mem _ (List.mem_append_left _ (List.mem_append_left _ (List.mem_append_left _ (List.mem_of_getElem? (i := 9) rfl)))), List.forall_mem_cons.mpr ⟨List.mem_cons_of_mem _ (List.mem_append_left _ (List.mem_append_left _ (List.mem_append_left _ (List.mem_of_getElem? (i := 10) rfl)))), (fun _ h => absurd h List.not_mem_nil)⟩⟩⟩⟩⟩⟩⟩⟩⟩⟩⟩⟩⟩⟩⟩, (fun _ h => List.mem_cons_of_mem _ (List.mem_append_left _ (List.mem_append_right _ h)))⟩, (fun _ h => List.mem_cons_of_mem _ (List.mem_append_right _ h))⟩⟩⟩) (by decide +kernel)
set_option maxHeartbeats 4000000 in
set_option maxRecDepth 100000 in
theorem x_X1_isPlaceClashing_e (l : Launch) (D : va_G) (sz : Nat) (sk : Value) (a : Nat → Nat) (t : Nat → ClassId) (i : Nat → Int32) (q : Int64) (c : Nat → Nat → Int32) (d : Nat → Nat → Int64) (f : Int32) (w1 : Int32) (w2 : Int32) (hI : xInv i c) (hw1 : 0 ≤ w1.toInt ∧ w1.toInt ≤ 29) (hw2 : 0 ≤ w2.toInt ∧ w2.toInt ≤ 29) (hc0 : (i 123).toInt = 0) (hs_A : Acy (hF (c 127))) : Met l yX1_isPlaceClashing wm_X1_isPlaceClashing_e ({ frames := 2, cells := 0, slots := 0, locals := 46 }) (va_Pc [.ref (a 112), .int f, .int w1, .int w2] (yB (a 186) D sz (xwT sk a t i q c d) (xtT t))) (va_Qi (fun (r : Int32) (u : MS) => ((0 ≤ r.toInt ∧ r.toInt ≤ 1) ∧ (Sm r (PlX (c 127) (c 120) (c 116) f.toInt w1.toInt w2.toInt))) ∧ xInv u.1 u.2.2.1 ∧ (∀ k, k ∉ ([123] : List Nat) → u.1 k = i k) ∧ (∀ k, k ∉ ([122] : List Nat) → u.2.2.1 k = c k)) (oC D (va_A (xwT sk a t i q c d) sz) (fun u : MS => xwT sk a t u.1 u.2.1 u.2.2.1 u.2.2.2) (fun _ => [])) (va_A (xwT sk a t i q c d) sz)) 0 0 (va_A (xwT sk a t i q c d) sz) := by
  refine Met.ofW (cc := cX1_isPlaceClashing) (maxL := 4) (ret := (some .boolean)) (by decide +kernel) rfl ?_
  intro p e s m args below meth cd s₁ B hml hv
  obtain ⟨rfl, ⟨hsz, hP, hK, hD0⟩, hN, hZ, hBW⟩ := hv
  have hx := B.exec
  have hb := B.bytes
  have hr := B.returns
  have hts := atoms_spec (ws := wm_X1_isPlaceClashing_e) B.pre
  have hown : s.vm.findClass RX1 = some m.cls := findClass_of_methodNamed B.named
  have hlocks := B.notSynchronized
  subst hsz
  have hD := hD0.self (sz := s.heap.size)
  have hZ := xZ_A hZ hP hBW
  generalize hAe : va_A (xwT sk a t i q c d) s.heap.size = A at hD hZ ⊢
  have hA : ∀ q : Nat, s.heap.size ≤ q → A q := fun q h => by rw [← hAe]; exact Or.inr h
  have hS : va_S A s.heap s.heap [] := va_S.rf
  have hfi : ∀ k, k ∉ ([] : List Nat) → i k = i k := fun _ _ => rfl
  have hfc : ∀ k, k ∉ ([] : List Nat) → c k = c k := fun _ _ => rfl
  have hl := lv_entry ([.ref (a 112), .int f, .int w1, .int w2]) (n := 4) (Nat.le_of_ble_eq_true rfl)
  rw [lg_entry_eq]
  generalize (lg_sl ([.ref (a 112), .int f, .int w1, .int w2]) ++ List.replicate (4 - (lg_sl ([.ref (a 112), .int f, .int w1, .int w2])).length) Slot.unset).toArray = ls at hl ⊢
  have hl : lv_has ls 4 [(0, .ref (a 112)), (1, .int f), (2, .int w1), (3, .int w2)] := hl
  have rb123_i : 0 ≤ (i 123).toInt ∧ (i 123).toInt ≤ 30 := hI.1 123
  refine lv_iload_n hx hb dX1_isPlaceClashing_0 rfl (lv_at hl 2 rfl) ?_
  refine lv_iload_n hx hb dX1_isPlaceClashing_1 rfl (lv_at hl 3 rfl) ?_
  refine lv_icmp_ne (tgt := 7) hx hb dX1_isPlaceClashing_2 (by decide +kernel) (fun c1 => ?_) (fun c1 => ?_)
  · have f1 := mt (ti_eq (a := w1.toInt) (b := w2.toInt) rfl rfl).mpr c1
    refine lv_aload_n hx hb dX1_isPlaceClashing_7 rfl (lv_at hl 0 rfl) ?_
    refine xgT_B_places hx hb hts (fun _ h => List.mem_cons_of_mem _ (List.mem_append_left _ (List.mem_append_right _ h))) hown hK hP (hts (.fieldLink RX1 52 "TalePlay$Book" "places" "LTalePlay$Scene;") (List.mem_cons_of_mem _ (List.mem_append_left _ (List.mem_append_left _ (List.mem_append_left _ (List.mem_of_getElem? (i := 0) rfl)))))) dX1_isPlaceClashing_8 ?_
    refine lv_iload_n hx hb dX1_isPlaceClashing_11 rfl (lv_at hl 2 rfl) ?_
    refine lv_iload_n hx hb dX1_isPlaceClashing_12 rfl (lv_at hl 3 rfl) ?_
    refine ro_calli (va_runV (As := [.int w1, .int w2]) (rest := []) ⟨hx, hb, hml, hown, hts⟩ (x_X6_isUp_e l D s.heap.size .null a t i q c d w1 w2 hI (show 0 ≤ w2.toInt ∧ w2.toInt ≤ 29 from by omega) (show 0 ≤ w1.toInt from by omega) hs_A) (cwV 2 hts gm_X1_isPlaceClashing_e_X6_isUp_e_134 rfl rfl rfl (by decide +kernel) ⟨Nat.le_of_ble_eq_true rfl, Nat.le_of_ble_eq_true rfl⟩) (yA_V hN (xZ_k hZ hS hA) (xkT_P0 hK) (xuT_P0 (sk := sk) hP) (ci := 6) (q0 := 0) rfl rfl) rfl rfl hl.1 rfl (lv_room (Nat.le_of_ble_eq_true rfl)) dX1_isPlaceClashing_13 ⟨Nat.le_of_ble_eq_true rfl, Nat.le_of_ble_eq_true rfl⟩) hS hA hP (fun r2 u2 H locs hw2 hP hS => ?_)
    have hw2 : ((0 ≤ r2.toInt ∧ r2.toInt ≤ 1) ∧ (Sm r2 (Ch (hF (c 127)) (hF (c 127) w2.toInt) w1.toInt))) := hw2
    obtain ⟨hw2, hr2_0⟩ := hw2
    have hr2_0 : Sm r2 (Ch (hF (c 127)) (hF (c 127) w2.toInt) w1.toInt) := hr2_0
    refine lv_if_eq (tgt := 27) hx hb dX1_isPlaceClashing_16 (by decide +kernel) (fun c3 => ?_) (fun c3 => ?_)
    · have f3 := (ti_eq (a := r2.toInt) (b := 0) rfl (by decide +kernel)).mp c3
      have s3 := sm_f hr2_0 c3
      refine lv_iload_n hx hb dX1_isPlaceClashing_27 rfl (lv_at hl 1 rfl) ?_
      refine lv_iconst (v := 3) hx hb dX1_isPlaceClashing_28 (by decide +kernel) ?_
      refine lv_icmp_ne (tgt := 50) hx hb dX1_isPlaceClashing_29 (by decide +kernel) (fun c4 => ?_) (fun c4 => ?_)
      · have f4 := mt (ti_eq (a := f.toInt) (b := 3) rfl (by decide +kernel)).mpr c4
        refine lv_iconst (v := 0) hx hb dX1_isPlaceClashing_50 (by decide +kernel) ?_
        exact rw_zret (i, q, c, d) hx hb hr hlocks hS (hK.sub (tys' := []) [] rfl) hP hD rfl dX1_isPlaceClashing_51 ⟨⟨(show 0 ≤ (0 : Int32).toInt ∧ (0 : Int32).toInt ≤ 1 from by decide +kernel), (show Sm (0 : Int32) (PlX (c 127) (c 120) (c 116) f.toInt w1.toInt w2.toInt) from sm_0 (fun h9 => by rcases h9 with h9 | h9 | ⟨h7, h9⟩; (· omega); (· exact s3 h9); (· first | (exfalso; omega; done))))⟩, hI, fr_w hfi (by decide +kernel), fr_w hfc (by decide +kernel)⟩
      · have f4 := (ti_eq (a := f.toInt) (b := 3) rfl (by decide +kernel)).mp c4
        refine lv_aload_n hx hb dX1_isPlaceClashing_32 rfl (lv_at hl 0 rfl) ?_
        refine lv_aload_n hx hb dX1_isPlaceClashing_33 rfl (lv_at hl 0 rfl) ?_
        refine lv_iload_n hx hb dX1_isPlaceClashing_34 rfl (lv_at hl 2 rfl) ?_
        refine lv_iconst (v := 4) hx hb dX1_isPlaceClashing_35 (by decide +kernel) ?_
        refine lv_iconst (v := 0) hx hb dX1_isPlaceClashing_36 (by decide +kernel) ?_
        refine ro_calli (va_runV (As := [.int w1, .int 4, .int 0]) (rest := [.ref (a 112)]) ⟨hx, hb, hml, hown, hts⟩ (x_X1_saying_e l D H.size .null a t i q c d w1 4 0 hI (show 0 ≤ w1.toInt ∧ w1.toInt ≤ 29 from by have h91 : (4 : Int32).toInt = 4 := (by decide +kernel); have h92 : (0 : Int32).toInt = 0 := (by decide +kernel); omega) (show 0 ≤ 4 ∧ 4 ≤ 5 from by decide +kernel)) (cwV 3 hts gm_X1_isPlaceClashing_e_X1_saying_e_140 rfl rfl rfl (by decide +kernel) ⟨Nat.le_of_ble_eq_true rfl, Nat.le_of_ble_eq_true rfl⟩) (yA_V hN (xZ_k hZ hS hA) (xkT_B hK) (xuT_B (sk := sk) hP) (ci := 1) (q0 := 6) rfl rfl) rfl rfl hl.1 rfl (lv_room (Nat.le_of_ble_eq_true rfl)) dX1_isPlaceClashing_37 ⟨Nat.le_of_ble_eq_true rfl, Nat.le_of_ble_eq_true rfl⟩) hS hA hP (fun r5 u5 H locs hw5 hP hS => ?_)
        have hw5 : ((r5.toInt = -9 ∨ (0 ≤ r5.toInt ∧ r5.toInt ≤ 199)) ∧ ((r5.toInt = -9 ∧ ¬ SyX (c 120) (c 116) w1.toInt 4 0) ∨ (¬ r5.toInt = -9 ∧ r5 = (c 120 (w1.toInt * 6 + 4).toNat) ∧ SyX (c 120) (c 116) w1.toInt 4 0))) := hw5
        obtain ⟨hw5, hr5_0⟩ := hw5
        have hr5_0 : (r5.toInt = -9 ∧ ¬ SyX (c 120) (c 116) w1.toInt 4 0) ∨ (¬ r5.toInt = -9 ∧ r5 = (c 120 (w1.toInt * 6 + 4).toNat) ∧ SyX (c 120) (c 116) w1.toInt 4 0) := hr5_0
        refine al_calli (va_runV (As := [.int r5]) (rest := []) ⟨hx, hb, hml, hown, hts⟩ (x_X1_addClash_e l D H.size sk a t i q c d r5 hI (show r5.toInt = -9 ∨ (0 ≤ r5.toInt ∧ r5.toInt ≤ 199) from by omega)) (cwV 1 hts gm_X1_isPlaceClashing_e_X1_addClash_e_121 rfl rfl rfl (by decide +kernel) ⟨Nat.le_of_ble_eq_true rfl, Nat.le_of_ble_eq_true rfl⟩) (yB_V hN (xZ_k hZ hS hA) (xZ_n hZ hD) hK hP hD (ci := 1) (q0 := 8) rfl rfl) rfl rfl hl.1 rfl (lv_room (Nat.le_of_ble_eq_true rfl)) dX1_isPlaceClashing_40 ⟨Nat.le_of_ble_eq_true rfl, Nat.le_of_ble_eq_true rfl⟩) hS hA hP hD (fun r6 u6 H locs hw6 hP hD hS => ?_)
        obtain ⟨i6, q6, c6, d6⟩ := u6
        have hw6 : ((r6.toInt = 0 ∧ (r5.toInt = -9 ∨ 30 ≤ (i 123).toInt)) ∨ (r6.toInt = 1 ∧ ¬ r5.toInt = -9 ∧ (i 123).toInt ≤ 29)) ∧ xInv i6 c6 ∧ (∀ k, k ∉ ([123] : List Nat) → i6 k = i k) ∧ (∀ k, k ∉ ([122] : List Nat) → c6 k = c k) ∧ ((i6 123).toInt = (i 123).toInt + r6.toInt) ∧ ((r6.toInt = 0 ∧ (c6 122) = (c 122)) ∨ (r6.toInt = 1 ∧ (c6 122) = upd (c 122) (i 123).toNatClampNeg r5)) := hw6
        obtain ⟨hw6, hI, hei6, hec6, hxp6_0, hxp6_1⟩ := hw6
        have hxp6_0 : (i6 123).toInt = (i 123).toInt + r6.toInt := hxp6_0
        have hxp6_1 : (r6.toInt = 0 ∧ (c6 122) = (c 122)) ∨ (r6.toInt = 1 ∧ (c6 122) = upd (c 122) (i 123).toNatClampNeg r5) := hxp6_1
        have hfi : ∀ k, k ∉ ([123] : List Nat) → i6 k = i k := fr_z hfi hei6 (by decide +kernel) (by decide +kernel)
        have hfc : ∀ k, k ∉ ([122] : List Nat) → c6 k = c k := fr_z hfc hec6 (by decide +kernel) (by decide +kernel)
        refine lv_if_eq (tgt := 50) hx hb dX1_isPlaceClashing_43 (by decide +kernel) (fun c7 => ?_) (fun c7 => ?_)
        · have f7 := (ti_eq (a := r6.toInt) (b := 0) rfl (by decide +kernel)).mp c7
          refine lv_iconst (v := 0) hx hb dX1_isPlaceClashing_50 (by decide +kernel) ?_
          exact rw_zret (i6, q6, c6, d6) hx hb hr hlocks hS (hK.sub (tys' := []) [] rfl) hP hD rfl dX1_isPlaceClashing_51 ⟨⟨(show 0 ≤ (0 : Int32).toInt ∧ (0 : Int32).toInt ≤ 1 from by decide +kernel), (show Sm (0 : Int32) (PlX (c 127) (c 120) (c 116) f.toInt w1.toInt w2.toInt) from sm_0 (fun h9 => by rcases h9 with h9 | h9 | ⟨h7, h9⟩; (· omega); (· exact s3 h9); (· first | (exfalso; omega; done) | (rcases hr5_0 with h8 | h8; (· exact h8.2 h9); (· exfalso; omega)))))⟩, hI, fr_w hfi (by decide +kernel), fr_w hfc (by decide +kernel)⟩
        · have f7 := mt (ti_eq (a := r6.toInt) (b := 0) rfl (by decide +kernel)).mpr c7
          refine lv_iconst (v := 1) hx hb dX1_isPlaceClashing_46 (by decide +kernel) ?_
          refine lv_goto (tgt := 51) hx hb dX1_isPlaceClashing_47 (by decide +kernel) ?_
          exact rw_zret (i6, q6, c6, d6) hx hb hr hlocks hS (hK.sub (tys' := []) [] rfl) hP hD rfl dX1_isPlaceClashing_51 ⟨⟨(show 0 ≤ (1 : Int32).toInt ∧ (1 : Int32).toInt ≤ 1 from by decide +kernel), (show Sm (1 : Int32) (PlX (c 127) (c 120) (c 116) f.toInt w1.toInt w2.toInt) from sm_1 (Or.inr (Or.inr ⟨by omega, by rcases hr5_0 with h9 | h9; (· exfalso; omega); (· exact h9.2.2)⟩)))⟩, hI, fr_w hfi (by decide +kernel), fr_w hfc (by decide +kernel)⟩
    · have f3 := mt (ti_eq (a := r2.toInt) (b := 0) rfl (by decide +kernel)).mpr c3
      have s3 := sm_t hr2_0 c3
      refine lv_aload_n hx hb dX1_isPlaceClashing_19 rfl (lv_at hl 0 rfl) ?_
      refine lv_iload_n hx hb dX1_isPlaceClashing_20 rfl (lv_at hl 2 rfl) ?_
      refine lv_iload_n hx hb dX1_isPlaceClashing_21 rfl (lv_at hl 3 rfl) ?_
      refine al_callv (va_runV (As := [.int w1, .int w2]) (rest := []) ⟨hx, hb, hml, hown, hts⟩ (x_X1_addChain l D H.size sk a t i q c d w1 w2 hI (show 0 ≤ w2.toInt ∧ w2.toInt ≤ 29 from by omega)) (cwV 2 hts gm_X1_isPlaceClashing_e_X1_addChain_137 rfl rfl rfl (by decide +kernel) ⟨Nat.le_of_ble_eq_true rfl, Nat.le_of_ble_eq_true rfl⟩) (yB_V hN (xZ_k hZ hS hA) (xZ_n hZ hD) hK hP hD (ci := 1) (q0 := 8) rfl rfl) rfl rfl hl.1 rfl (lv_room (Nat.le_of_ble_eq_true rfl)) dX1_isPlaceClashing_22 ⟨Nat.le_of_ble_eq_true rfl, Nat.le_of_ble_eq_true rfl⟩) hS hA hP hD (fun u8 H locs hw8 hP hD hS => ?_)
      obtain ⟨i8, q8, c8, d8⟩ := u8
      have hw8 : True ∧ xInv i8 c8 ∧ (∀ k, k ∉ ([123] : List Nat) → i8 k = i k) ∧ (∀ k, k ∉ ([122] : List Nat) → c8 k = c k) := hw8
      obtain ⟨hw8, hI, hei8, hec8⟩ := hw8
      have hfi : ∀ k, k ∉ ([123] : List Nat) → i8 k = i k := fr_z hfi hei8 (by decide +kernel) (by decide +kernel)
      have hfc : ∀ k, k ∉ ([122] : List Nat) → c8 k = c k := fr_z hfc hec8 (by decide +kernel) (by decide +kernel)
      refine lv_iconst (v := 1) hx hb dX1_isPlaceClashing_25 (by decide +kernel) ?_
      exact rw_zret (i8, q8, c8, d8) hx hb hr hlocks hS (hK.sub (tys' := []) [] rfl) hP hD rfl dX1_isPlaceClashing_26 ⟨⟨(show 0 ≤ (1 : Int32).toInt ∧ (1 : Int32).toInt ≤ 1 from by decide +kernel), (show Sm (1 : Int32) (PlX (c 127) (c 120) (c 116) f.toInt w1.toInt w2.toInt) from sm_1 (Or.inr (Or.inl s3)))⟩, hI, fr_w hfi (by decide +kernel), fr_w hfc (by decide +kernel)⟩
  · have f1 := (ti_eq (a := w1.toInt) (b := w2.toInt) rfl rfl).mp c1
    refine lv_iconst (v := 1) hx hb dX1_isPlaceClashing_5 (by decide +kernel) ?_
    exact rw_zret (i, q, c, d) hx hb hr hlocks hS (hK.sub (tys' := []) [] rfl) hP hD rfl dX1_isPlaceClashing_6 ⟨⟨(show 0 ≤ (1 : Int32).toInt ∧ (1 : Int32).toInt ≤ 1 from by decide +kernel), (show Sm (1 : Int32) (PlX (c 127) (c 120) (c 116) f.toInt w1.toInt w2.toInt) from sm_1 (Or.inl (by omega)))⟩, hI, fr_w hfi (by decide +kernel), fr_w hfc (by decide +kernel)⟩

def wm_X1_isDoorClashing_e : List Cond := .code yX1_isDoorClashing cX1_isDoorClashing 5 (some .boolean) :: (([.fieldLink RX1 92 "TalePlay$Book" "total" "I", .fieldLink RX1 118 "TalePlay$Book" "clashes" "I", .methodLink RX1 146 yX1_clearClash, .instanceMethod yX1_clearClash, .selects RX1 yX1_clearClash yX1_clearClash, .initialized RX1, .code yX1_clearClash cX1_clearClash 1 none, .fieldLink RX1 24 "TalePlay$Book" "said" "[Z", .fieldLink RX1 9 "TalePlay$Book" "forms" "[I", .fieldLink RX1 18 "TalePlay$Book" "bs" "[I", .methodLink RX1 121 yX1_addClash, .instanceMethod yX1_addClash, .selects RX1 yX1_addClash yX1_addClash, .code yX1_addClash cX1_addClash 2 (some .boolean), .fieldLink RX1 40 "TalePlay$Book" "clashRow" "[I", .fieldLink RX1 31 "TalePlay$Book" "exitBy" "[I"] : List Cond) ++ wsX10)
set_option maxRecDepth 20000 in
theorem gm_X1_isDoorClashing_e_X1_clearClash_146 : GoodIn wm_X1_isDoorClashing_e (wsV RX1 146 RX1 yX1_clearClash wm_X1_clearClash) := goodIn_w (List.forall_mem_append.mpr ⟨List.forall_mem_cons.mpr ⟨List.mem_cons_of_mem _ (List.mem_append_left _ (List.mem_of_getElem? (i := 2) rfl)), List.forall_mem_cons.mpr ⟨List.mem_cons_of_mem _ (List.mem_append_left _ (List.mem_of_getElem? (i := 3) rfl)), List.forall_mem_cons.mpr ⟨List.mem_cons_of_mem _ (List.mem_append_left _ (List.mem_of_getElem? (i := 4) rfl)), List.forall_mem_cons.mpr ⟨List.mem_cons_of_mem _ (List.mem_append_left _ (List.mem_of_getElem? (i := 5) rfl)), (fun _ h => absurd h List.not_mem_nil)⟩⟩⟩⟩, List.forall_mem_cons.mpr ⟨List.mem_cons_of_mem _ (List.mem_append_left _ (List.mem_of_getElem? (i := 6) rfl)), List.forall_mem_append.mpr ⟨List.forall_mem_cons.mpr ⟨List.mem_cons_of_mem _ (List.mem_append_left _ (List.mem_of_getElem? (i := 1) rfl)), (fun _ h => absurd h List.not_mem_nil)⟩, (fun _ h => List.mem_cons_of_mem _ (List.mem_append_right _ h))⟩⟩⟩) (by decide +kernel)
set_option maxRecDepth 20000 in
theorem gm_X1_isDoorClashing_e_X1_addClash_e_121 : GoodIn wm_X1_isDoorClashing_e (wsV RX1 121 RX1 yX1_addClash wm_X1_addClash_e) := goodIn_w (List.forall_mem_append.mpr ⟨List.forall_mem_cons.mpr ⟨List.mem_cons_of_mem _ (List.mem_append_left _ (List.mem_of_getElem? (i := 10) rfl)), List.forall_mem_cons.mpr ⟨List.mem_cons_of_mem _ (List.mem_append_left _ (List.mem_of_getElem? (i := 11) rfl)), List.forall_mem_cons.mpr ⟨List.mem_cons_of_mem _ (List.mem_append_left _ (List.mem_of_getElem? (i := 12) rfl)), List.forall_mem_cons.mpr ⟨List.mem_cons_of_mem _ (List.mem_append_left _ (List.mem_of_getElem? (i := 5) rfl)), (fun _ h => absurd h List.not_mem_nil)⟩⟩⟩⟩, List.forall_mem_cons.mpr ⟨List.mem_cons_of_mem _ (List.mem_append_left _ (List.mem_of_getElem? (i := 13) rfl)), List.forall_mem_append.mpr ⟨List.forall_mem_cons.mpr ⟨List.mem_cons_of_mem _ (List.mem_append_left _ (List.mem_of_getElem? (i := 1) rfl)), List.forall_mem_cons.mpr ⟨List.mem_cons_of_mem _ (List.mem_append_left _ (List.mem_of_getElem? (i := 14) rfl)), (fun _ h => absurd h List.not_mem_nil)⟩⟩, (fun _ h => List.mem_cons_of_mem _ (List.mem_append_right _ h))⟩⟩⟩) (by decide +kernel)
set_option maxHeartbeats 4000000 in
set_option maxRecDepth 100000 in
theorem x_X1_isDoorClashing_e (l : Launch) (D : va_G) (sz : Nat) (sk : Value) (a : Nat → Nat) (t : Nat → ClassId) (i : Nat → Int32) (q : Int64) (c : Nat → Nat → Int32) (d : Nat → Nat → Int64) (w1 : Int32) (w2 : Int32) (hI : xInv i c) (hw1 : 0 ≤ w1.toInt ∧ w1.toInt ≤ 29) (hw2 : 0 ≤ w2.toInt ∧ w2.toInt ≤ 29) (hc0 : (i 123).toInt = 0) : Met l yX1_isDoorClashing wm_X1_isDoorClashing_e ({ frames := 1, cells := 0, slots := 0, locals := 21 }) (va_Pc [.ref (a 112), .int w1, .int w2] (yB (a 186) D sz (xwT sk a t i q c d) (xtT t))) (va_Qi (fun (r : Int32) (u : MS) => ((0 ≤ r.toInt ∧ r.toInt ≤ 1) ∧ (Sm r (DoX (c 119) (c 113) (c 115) (c 117) (i 124).toInt w1.toInt w2.toInt))) ∧ xInv u.1 u.2.2.1 ∧ (∀ k, k ∉ ([123] : List Nat) → u.1 k = i k) ∧ (∀ k, k ∉ ([122] : List Nat) → u.2.2.1 k = c k)) (oC D (va_A (xwT sk a t i q c d) sz) (fun u : MS => xwT sk a t u.1 u.2.1 u.2.2.1 u.2.2.2) (fun _ => [])) (va_A (xwT sk a t i q c d) sz)) 0 0 (va_A (xwT sk a t i q c d) sz) := by
  refine Met.ofW (cc := cX1_isDoorClashing) (maxL := 5) (ret := (some .boolean)) (by decide +kernel) rfl ?_
  intro p e s m args below meth cd s₁ B hml hv
  obtain ⟨rfl, ⟨hsz, hP, hK, hD0⟩, hN, hZ, hBW⟩ := hv
  have hx := B.exec
  have hb := B.bytes
  have hr := B.returns
  have hts := atoms_spec (ws := wm_X1_isDoorClashing_e) B.pre
  have hown : s.vm.findClass RX1 = some m.cls := findClass_of_methodNamed B.named
  have hlocks := B.notSynchronized
  subst hsz
  have hD := hD0.self (sz := s.heap.size)
  have hZ := xZ_A hZ hP hBW
  generalize hAe : va_A (xwT sk a t i q c d) s.heap.size = A at hD hZ ⊢
  have hA : ∀ q : Nat, s.heap.size ≤ q → A q := fun q h => by rw [← hAe]; exact Or.inr h
  have hS : va_S A s.heap s.heap [] := va_S.rf
  have hfi : ∀ k, k ∉ ([] : List Nat) → i k = i k := fun _ _ => rfl
  have hfc : ∀ k, k ∉ ([] : List Nat) → c k = c k := fun _ _ => rfl
  have hl := lv_entry ([.ref (a 112), .int w1, .int w2]) (n := 5) (Nat.le_of_ble_eq_true rfl)
  rw [lg_entry_eq]
  generalize (lg_sl ([.ref (a 112), .int w1, .int w2]) ++ List.replicate (5 - (lg_sl ([.ref (a 112), .int w1, .int w2])).length) Slot.unset).toArray = ls at hl ⊢
  have hl : lv_has ls 5 [(0, .ref (a 112)), (1, .int w1), (2, .int w2)] := hl
  have rb123_i : 0 ≤ (i 123).toInt ∧ (i 123).toInt ≤ 30 := hI.1 123
  have rb124_i : 0 ≤ (i 124).toInt ∧ (i 124).toInt ≤ 200 := hI.1 124
  refine lv_iconst (v := 0) hx hb dX1_isDoorClashing_0 (by decide +kernel) ?_
  refine lv_istore_n (lv' := [(3, .int 0), (0, .ref (a 112)), (1, .int w1), (2, .int w2)]) hx hb dX1_isDoorClashing_1 rfl hl (by decide +kernel) rfl (fun ls hl => ?_)
  have lp1 : ∀ (fu : Nat) (y1_3 : Int32), (0 ≤ y1_3.toInt ∧ y1_3.toInt ≤ 10) → (∀ s : Nat, (s : Int) < y1_3.toInt → ¬ DP (c 119) (c 115) w1.toInt w2.toInt s) → (((i 123) : Int32).toInt = 0) → (10 - y1_3.toInt).toNat < fu → ∀ (H : Heap) (locs : List Loc) (ls : Array Slot), va_P D vwCl (xwT sk a t i q c d) H → va_D A (xwT sk a t i q c d) → va_S A s.heap H locs → lv_has ls 5 [(3, .int y1_3), (0, .ref (a 112)), (1, .int w1), (2, .int w2)] → W p l e (headSpec wm_X1_isDoorClashing_e ({ frames := 1, cells := 0, slots := 0, locals := 21 })).room s m ([.ref (a 112), .int w1, .int w2] : List Value).toArray below meth cd H locs 0 0 (MQ below (va_Qi (fun (r : Int32) (u : MS) => ((0 ≤ r.toInt ∧ r.toInt ≤ 1) ∧ (Sm r (DoX (c 119) (c 113) (c 115) (c 117) (i 124).toInt w1.toInt w2.toInt))) ∧ xInv u.1 u.2.2.1 ∧ (∀ k, k ∉ ([123] : List Nat) → u.1 k = i k) ∧ (∀ k, k ∉ ([122] : List Nat) → u.2.2.1 k = c k)) (oC D A (fun u : MS => xwT sk a t u.1 u.2.1 u.2.2.1 u.2.2.2) (fun _ => [])) A) ([.ref (a 112), .int w1, .int w2] : List Value).toArray s 0 0 A) (F0 m 2 ls []) := by
    intro fu
    induction fu with
    | zero => intro y1_3 hy1_3 hz1_0 hz1_1 hm; exact absurd hm (Nat.not_lt_zero _)
    | succ fu ih =>
      intro y1_3 hy1_3 hz1_0 hz1_1 hm H locs ls hP hD hS hl
      have ih1 := ih
      refine lv_iload_n hx hb dX1_isDoorClashing_2 rfl (lv_at hl 0 rfl) ?_
      refine lv_bipush (v := 10) hx hb dX1_isDoorClashing_3 (by decide +kernel) ?_
      refine lv_icmp_ge (tgt := 52) hx hb dX1_isDoorClashing_5 (by decide +kernel) (fun c2 => ?_) (fun c2 => ?_)
      · have f2 := (ti_le (a := 10) (b := y1_3.toInt) (by decide +kernel) rfl).mp c2
        refine lv_iconst (v := 0) hx hb dX1_isDoorClashing_52 (by decide +kernel) ?_
        refine lv_istore_n (lv' := [(3, .int 0), (0, .ref (a 112)), (1, .int w1), (2, .int w2)]) hx hb dX1_isDoorClashing_53 rfl hl (by decide +kernel) rfl (fun ls hl => ?_)
        have lp3 : ∀ (fu : Nat) (i3 : Nat → Int32) (q3 : Int64) (c3 : Nat → Nat → Int32) (d3 : Nat → Nat → Int64) (y3_3 : Int32), xInv i3 c3 → (∀ k, k ∉ ([123] : List Nat) → i3 k = i k) → (∀ k, k ∉ ([122] : List Nat) → c3 k = c k) → (0 ≤ y3_3.toInt ∧ y3_3.toInt ≤ 200 ∧ y3_3.toInt ≤ (i 124).toInt) → (CN (EB (c 113) (c 115) (c 117) w2.toInt) y3_3.toInt ((i3 123) : Int32).toInt) → (200 - y3_3.toInt).toNat < fu → ∀ (H : Heap) (locs : List Loc) (ls : Array Slot), va_P D vwCl (xwT sk a t i3 q3 c3 d3) H → va_D A (xwT sk a t i3 q3 c3 d3) → va_S A s.heap H locs → lv_has ls 5 [(3, .int y3_3), (0, .ref (a 112)), (1, .int w1), (2, .int w2)] → W p l e (headSpec wm_X1_isDoorClashing_e ({ frames := 1, cells := 0, slots := 0, locals := 21 })).room s m ([.ref (a 112), .int w1, .int w2] : List Value).toArray below meth cd H locs 0 0 (MQ below (va_Qi (fun (r : Int32) (u : MS) => ((0 ≤ r.toInt ∧ r.toInt ≤ 1) ∧ (Sm r (DoX (c 119) (c 113) (c 115) (c 117) (i 124).toInt w1.toInt w2.toInt))) ∧ xInv u.1 u.2.2.1 ∧ (∀ k, k ∉ ([123] : List Nat) → u.1 k = i k) ∧ (∀ k, k ∉ ([122] : List Nat) → u.2.2.1 k = c k)) (oC D A (fun u : MS => xwT sk a t u.1 u.2.1 u.2.2.1 u.2.2.2) (fun _ => [])) A) ([.ref (a 112), .int w1, .int w2] : List Value).toArray s 0 0 A) (F0 m 54 ls []) := by
          intro fu
          induction fu with
          | zero => intro i3 q3 c3 d3 y3_3 hI hfi hfc hy3_3 hz3_0 hm; exact absurd hm (Nat.not_lt_zero _)
          | succ fu ih =>
            intro i3 q3 c3 d3 y3_3 hI hfi hfc hy3_3 hz3_0 hm H locs ls hP hD hS hl
            have ih3 := ih
            refine lv_iload_n hx hb dX1_isDoorClashing_54 rfl (lv_at hl 0 rfl) ?_
            refine lv_aload_n hx hb dX1_isDoorClashing_55 rfl (lv_at hl 1 rfl) ?_
            refine xgT_B_total (v := (i3 124)) rfl hx hb hts (fun _ h => List.mem_cons_of_mem _ (List.mem_append_right _ h)) hown hK hP (hts (.fieldLink RX1 92 "TalePlay$Book" "total" "I") (List.mem_cons_of_mem _ (List.mem_append_left _ (List.mem_of_getElem? (i := 0) rfl)))) dX1_isDoorClashing_56 ?_
            have rb124_i3 : 0 ≤ (i3 124).toInt ∧ (i3 124).toInt ≤ 200 := hI.1 124
            have re124_i3 : (i3 124).toInt = (i 124).toInt := congrArg Int32.toInt (hfi 124 (by decide +kernel))
            refine lv_icmp_ge (tgt := 103) hx hb dX1_isDoorClashing_59 (by decide +kernel) (fun c4 => ?_) (fun c4 => ?_)
            · have f4 := (ti_le (a := (i3 124).toInt) (b := y3_3.toInt) rfl rfl).mp c4
              refine lv_aload_n hx hb dX1_isDoorClashing_103 rfl (lv_at hl 1 rfl) ?_
              refine xgT_B_clashes (v := (i3 123)) rfl hx hb hts (fun _ h => List.mem_cons_of_mem _ (List.mem_append_right _ h)) hown hK hP (hts (.fieldLink RX1 118 "TalePlay$Book" "clashes" "I") (List.mem_cons_of_mem _ (List.mem_append_left _ (List.mem_of_getElem? (i := 1) rfl)))) dX1_isDoorClashing_104 ?_
              have rb123_i3 : 0 ≤ (i3 123).toInt ∧ (i3 123).toInt ≤ 30 := hI.1 123
              refine lv_iconst (v := 2) hx hb dX1_isDoorClashing_107 (by decide +kernel) ?_
              refine lv_icmp_lt (tgt := 113) hx hb dX1_isDoorClashing_108 (by decide +kernel) (fun c5 => ?_) (fun c5 => ?_)
              · have f5 := (ti_lt (a := (i3 123).toInt) (b := 2) rfl (by decide +kernel)).mp c5
                refine lv_aload_n hx hb dX1_isDoorClashing_113 rfl (lv_at hl 1 rfl) ?_
                refine al_callv (va_runV (As := []) (rest := []) ⟨hx, hb, hml, hown, hts⟩ (x_X1_clearClash l D H.size sk a t i3 q3 c3 d3  hI ) (cwV 0 hts gm_X1_isDoorClashing_e_X1_clearClash_146 rfl rfl rfl (by decide +kernel) ⟨Nat.le_of_ble_eq_true rfl, Nat.le_of_ble_eq_true rfl⟩) (yB_V hN (xZ_k hZ hS hA) (xZ_n hZ hD) hK hP hD (ci := 1) (q0 := 8) rfl rfl) rfl rfl hl.1 rfl (lv_room (Nat.le_of_ble_eq_true rfl)) dX1_isDoorClashing_114 ⟨Nat.le_of_ble_eq_true rfl, Nat.le_of_ble_eq_true rfl⟩) hS hA hP hD (fun u6 H locs hw6 hP hD hS => ?_)
                obtain ⟨i6, q6, c6, d6⟩ := u6
                have hw6 : True ∧ xInv i6 c6 ∧ (∀ k, k ∉ ([123] : List Nat) → i6 k = i3 k) ∧ (∀ k, k ∉ ([] : List Nat) → c6 k = c3 k) := hw6
                obtain ⟨hw6, hI, hei6, hec6⟩ := hw6
                have hfi : ∀ k, k ∉ ([123] : List Nat) → i6 k = i k := fr_z hfi hei6 (by decide +kernel) (by decide +kernel)
                have hfc : ∀ k, k ∉ ([122] : List Nat) → c6 k = c k := fr_z hfc hec6 (by decide +kernel) (by decide +kernel)
                refine lv_iconst (v := 0) hx hb dX1_isDoorClashing_117 (by decide +kernel) ?_
                exact rw_zret (i6, q6, c6, d6) hx hb hr hlocks hS (hK.sub (tys' := []) [] rfl) hP hD rfl dX1_isDoorClashing_118 ⟨⟨(show 0 ≤ (0 : Int32).toInt ∧ (0 : Int32).toInt ≤ 1 from by decide +kernel), (show Sm (0 : Int32) (DoX (c 119) (c 113) (c 115) (c 117) (i 124).toInt w1.toInt w2.toInt) from sm_0 (fun h9 => by rcases h9 with ⟨d9, h8, h7⟩ | h9; (· exact hz1_0 d9 (by omega) h7); (· rw [show (i 124).toInt = y3_3.toInt by omega] at h9; exact CN_1 hz3_0 (by omega) h9)))⟩, hI, fr_w hfi (by decide +kernel), fr_w hfc (by decide +kernel)⟩
              · have f5 := mt (ti_lt (a := (i3 123).toInt) (b := 2) rfl (by decide +kernel)).mpr c5
                refine lv_iconst (v := 1) hx hb dX1_isDoorClashing_111 (by decide +kernel) ?_
                exact rw_zret (i3, q3, c3, d3) hx hb hr hlocks hS (hK.sub (tys' := []) [] rfl) hP hD rfl dX1_isDoorClashing_112 ⟨⟨(show 0 ≤ (1 : Int32).toInt ∧ (1 : Int32).toInt ≤ 1 from by decide +kernel), (show Sm (1 : Int32) (DoX (c 119) (c 113) (c 115) (c 117) (i 124).toInt w1.toInt w2.toInt) from sm_1 (Or.inr (by rw [show (i 124).toInt = y3_3.toInt by omega]; exact CN_2 hz3_0 (by omega))))⟩, hI, fr_w hfi (by decide +kernel), fr_w hfc (by decide +kernel)⟩
            · have f4 := mt (ti_le (a := (i3 124).toInt) (b := y3_3.toInt) rfl rfl).mpr c4
              refine lv_aload_n hx hb dX1_isDoorClashing_62 rfl (lv_at hl 1 rfl) ?_
              refine xgT_B_said hx hb hts (fun _ h => List.mem_cons_of_mem _ (List.mem_append_right _ h)) hown hK hP (hts (.fieldLink RX1 24 "TalePlay$Book" "said" "[Z") (List.mem_cons_of_mem _ (List.mem_append_left _ (List.mem_of_getElem? (i := 7) rfl)))) dX1_isDoorClashing_63 ?_
              refine lv_iload_n hx hb dX1_isDoorClashing_66 rfl (lv_at hl 0 rfl) ?_
              refine xlT_117 hx hb hK hP (vp_in_iff.mpr (by have h9 : y3_3.toInt = y3_3.toInt := rfl; omega)) dX1_isDoorClashing_67 (fun x7 ex7 => ?_)
              have rx7 : 0 ≤ x7.toInt ∧ x7.toInt ≤ 1 := by rw [ex7]; exact hI.2 117 _
              have gx7 : (c 117 (y3_3 : Int32).toNatClampNeg).toInt = x7.toInt := by rw [show x7 = c3 117 (y3_3 : Int32).toNatClampNeg from ex7, show c3 117 = c 117 from hfc 117 (by decide +kernel)]
              refine lv_if_eq (tgt := 97) hx hb dX1_isDoorClashing_68 (by decide +kernel) (fun c8 => ?_) (fun c8 => ?_)
              · have f8 := (ti_eq (a := x7.toInt) (b := 0) rfl (by decide +kernel)).mp c8
                obtain ⟨x9, ex9⟩ : ∃ y : Int32, y = y3_3 + 1 := ⟨_, rfl⟩
                have tx9 := ti_add (a := y3_3.toInt) (b := 1) ex9 rfl (by decide +kernel) (by omega) (by omega)
                refine lv_iinc (v := x9) (lv' := [(3, .int x9), (0, .ref (a 112)), (1, .int w1), (2, .int w2)]) hx hb dX1_isDoorClashing_97 hl (k := 0) rfl (by rw [ex9]; rfl) (by decide +kernel) rfl (fun ls hl => ?_)
                refine lv_goto (tgt := 54) hx hb dX1_isDoorClashing_100 (by decide +kernel) ?_
                exact ih3 i3 q3 c3 d3 x9 hI (fr_w hfi (by decide +kernel)) (fr_w hfc (by decide +kernel)) (show 0 ≤ x9.toInt ∧ x9.toInt ≤ 200 ∧ x9.toInt ≤ (i 124).toInt from by have h50 : x9.toInt = (y3_3.toInt + 1) := tx9; omega) (show CN (EB (c 113) (c 115) (c 117) w2.toInt) x9.toInt ((i3 123) : Int32).toInt from CN_n hz3_0 (by omega) (by unfold EB; omega) tx9) (by have h50 : x9.toInt = (y3_3.toInt + 1) := tx9; omega) _ _ _ hP hD hS (lv_sub hl [0, 1, 2, 3] rfl)
              · have f8 := mt (ti_eq (a := x7.toInt) (b := 0) rfl (by decide +kernel)).mpr c8
                refine lv_aload_n hx hb dX1_isDoorClashing_71 rfl (lv_at hl 1 rfl) ?_
                refine xgT_B_forms hx hb hts (fun _ h => List.mem_cons_of_mem _ (List.mem_append_right _ h)) hown hK hP (hts (.fieldLink RX1 9 "TalePlay$Book" "forms" "[I") (List.mem_cons_of_mem _ (List.mem_append_left _ (List.mem_of_getElem? (i := 8) rfl)))) dX1_isDoorClashing_72 ?_
                refine lv_iload_n hx hb dX1_isDoorClashing_75 rfl (lv_at hl 0 rfl) ?_
                refine xlT_113 hx hb hK hP (vp_in_iff.mpr (by have h9 : y3_3.toInt = y3_3.toInt := rfl; omega)) dX1_isDoorClashing_76 (fun x10 ex10 => ?_)
                have rx10 : 0 ≤ x10.toInt ∧ x10.toInt ≤ 7 := by rw [ex10]; exact hI.2 113 _
                have gx10 : (c 113 (y3_3 : Int32).toNatClampNeg).toInt = x10.toInt := by rw [show x10 = c3 113 (y3_3 : Int32).toNatClampNeg from ex10, show c3 113 = c 113 from hfc 113 (by decide +kernel)]
                refine lv_iconst (v := 5) hx hb dX1_isDoorClashing_77 (by decide +kernel) ?_
                refine lv_icmp_ne (tgt := 97) hx hb dX1_isDoorClashing_78 (by decide +kernel) (fun c11 => ?_) (fun c11 => ?_)
                · have f11 := mt (ti_eq (a := x10.toInt) (b := 5) rfl (by decide +kernel)).mpr c11
                  obtain ⟨x12, ex12⟩ : ∃ y : Int32, y = y3_3 + 1 := ⟨_, rfl⟩
                  have tx12 := ti_add (a := y3_3.toInt) (b := 1) ex12 rfl (by decide +kernel) (by omega) (by omega)
                  refine lv_iinc (v := x12) (lv' := [(3, .int x12), (0, .ref (a 112)), (1, .int w1), (2, .int w2)]) hx hb dX1_isDoorClashing_97 hl (k := 0) rfl (by rw [ex12]; rfl) (by decide +kernel) rfl (fun ls hl => ?_)
                  refine lv_goto (tgt := 54) hx hb dX1_isDoorClashing_100 (by decide +kernel) ?_
                  exact ih3 i3 q3 c3 d3 x12 hI (fr_w hfi (by decide +kernel)) (fr_w hfc (by decide +kernel)) (show 0 ≤ x12.toInt ∧ x12.toInt ≤ 200 ∧ x12.toInt ≤ (i 124).toInt from by have h50 : x12.toInt = (y3_3.toInt + 1) := tx12; omega) (show CN (EB (c 113) (c 115) (c 117) w2.toInt) x12.toInt ((i3 123) : Int32).toInt from CN_n hz3_0 (by omega) (by unfold EB; omega) tx12) (by have h50 : x12.toInt = (y3_3.toInt + 1) := tx12; omega) _ _ _ hP hD hS (lv_sub hl [0, 1, 2, 3] rfl)
                · have f11 := (ti_eq (a := x10.toInt) (b := 5) rfl (by decide +kernel)).mp c11
                  refine lv_aload_n hx hb dX1_isDoorClashing_81 rfl (lv_at hl 1 rfl) ?_
                  refine xgT_B_bs hx hb hts (fun _ h => List.mem_cons_of_mem _ (List.mem_append_right _ h)) hown hK hP (hts (.fieldLink RX1 18 "TalePlay$Book" "bs" "[I") (List.mem_cons_of_mem _ (List.mem_append_left _ (List.mem_of_getElem? (i := 9) rfl)))) dX1_isDoorClashing_82 ?_
                  refine lv_iload_n hx hb dX1_isDoorClashing_85 rfl (lv_at hl 0 rfl) ?_
                  refine xlT_115 hx hb hK hP (vp_in_iff.mpr (by have h9 : y3_3.toInt = y3_3.toInt := rfl; omega)) dX1_isDoorClashing_86 (fun x13 ex13 => ?_)
                  have rx13 : 0 ≤ x13.toInt ∧ x13.toInt ≤ 29 := by rw [ex13]; exact hI.2 115 _
                  have gx13 : (c 115 (y3_3 : Int32).toNatClampNeg).toInt = x13.toInt := by rw [show x13 = c3 115 (y3_3 : Int32).toNatClampNeg from ex13, show c3 115 = c 115 from hfc 115 (by decide +kernel)]
                  refine lv_iload_n hx hb dX1_isDoorClashing_87 rfl (lv_at hl 3 rfl) ?_
                  refine lv_icmp_ne (tgt := 97) hx hb dX1_isDoorClashing_88 (by decide +kernel) (fun c14 => ?_) (fun c14 => ?_)
                  · have f14 := mt (ti_eq (a := x13.toInt) (b := w2.toInt) rfl rfl).mpr c14
                    obtain ⟨x15, ex15⟩ : ∃ y : Int32, y = y3_3 + 1 := ⟨_, rfl⟩
                    have tx15 := ti_add (a := y3_3.toInt) (b := 1) ex15 rfl (by decide +kernel) (by omega) (by omega)
                    refine lv_iinc (v := x15) (lv' := [(3, .int x15), (0, .ref (a 112)), (1, .int w1), (2, .int w2)]) hx hb dX1_isDoorClashing_97 hl (k := 0) rfl (by rw [ex15]; rfl) (by decide +kernel) rfl (fun ls hl => ?_)
                    refine lv_goto (tgt := 54) hx hb dX1_isDoorClashing_100 (by decide +kernel) ?_
                    exact ih3 i3 q3 c3 d3 x15 hI (fr_w hfi (by decide +kernel)) (fr_w hfc (by decide +kernel)) (show 0 ≤ x15.toInt ∧ x15.toInt ≤ 200 ∧ x15.toInt ≤ (i 124).toInt from by have h50 : x15.toInt = (y3_3.toInt + 1) := tx15; omega) (show CN (EB (c 113) (c 115) (c 117) w2.toInt) x15.toInt ((i3 123) : Int32).toInt from CN_n hz3_0 (by omega) (by unfold EB; omega) tx15) (by have h50 : x15.toInt = (y3_3.toInt + 1) := tx15; omega) _ _ _ hP hD hS (lv_sub hl [0, 1, 2, 3] rfl)
                  · have f14 := (ti_eq (a := x13.toInt) (b := w2.toInt) rfl rfl).mp c14
                    refine lv_aload_n hx hb dX1_isDoorClashing_91 rfl (lv_at hl 1 rfl) ?_
                    refine lv_iload_n hx hb dX1_isDoorClashing_92 rfl (lv_at hl 0 rfl) ?_
                    have rb123_i3 : 0 ≤ (i3 123).toInt ∧ (i3 123).toInt ≤ 30 := hI.1 123
                    refine al_calli (va_runV (As := [.int y3_3]) (rest := []) ⟨hx, hb, hml, hown, hts⟩ (x_X1_addClash_e l D H.size sk a t i3 q3 c3 d3 y3_3 hI (show y3_3.toInt = -9 ∨ (0 ≤ y3_3.toInt ∧ y3_3.toInt ≤ 199) from by omega)) (cwV 1 hts gm_X1_isDoorClashing_e_X1_addClash_e_121 rfl rfl rfl (by decide +kernel) ⟨Nat.le_of_ble_eq_true rfl, Nat.le_of_ble_eq_true rfl⟩) (yB_V hN (xZ_k hZ hS hA) (xZ_n hZ hD) hK hP hD (ci := 1) (q0 := 8) rfl rfl) rfl rfl hl.1 rfl (lv_room (Nat.le_of_ble_eq_true rfl)) dX1_isDoorClashing_93 ⟨Nat.le_of_ble_eq_true rfl, Nat.le_of_ble_eq_true rfl⟩) hS hA hP hD (fun r16 u16 H locs hw16 hP hD hS => ?_)
                    obtain ⟨i16, q16, c16, d16⟩ := u16
                    have hw16 : ((r16.toInt = 0 ∧ (y3_3.toInt = -9 ∨ 30 ≤ (i3 123).toInt)) ∨ (r16.toInt = 1 ∧ ¬ y3_3.toInt = -9 ∧ (i3 123).toInt ≤ 29)) ∧ xInv i16 c16 ∧ (∀ k, k ∉ ([123] : List Nat) → i16 k = i3 k) ∧ (∀ k, k ∉ ([122] : List Nat) → c16 k = c3 k) ∧ ((i16 123).toInt = (i3 123).toInt + r16.toInt) ∧ ((r16.toInt = 0 ∧ (c16 122) = (c3 122)) ∨ (r16.toInt = 1 ∧ (c16 122) = upd (c3 122) (i3 123).toNatClampNeg y3_3)) := hw16
                    obtain ⟨hw16, hI, hei16, hec16, hxp16_0, hxp16_1⟩ := hw16
                    have hxp16_0 : (i16 123).toInt = (i3 123).toInt + r16.toInt := hxp16_0
                    have hxp16_1 : (r16.toInt = 0 ∧ (c16 122) = (c3 122)) ∨ (r16.toInt = 1 ∧ (c16 122) = upd (c3 122) (i3 123).toNatClampNeg y3_3) := hxp16_1
                    have hfi : ∀ k, k ∉ ([123] : List Nat) → i16 k = i k := fr_z hfi hei16 (by decide +kernel) (by decide +kernel)
                    have hfc : ∀ k, k ∉ ([122] : List Nat) → c16 k = c k := fr_z hfc hec16 (by decide +kernel) (by decide +kernel)
                    refine lv_pop hx hb dX1_isDoorClashing_96 rfl ?_
                    obtain ⟨x17, ex17⟩ : ∃ y : Int32, y = y3_3 + 1 := ⟨_, rfl⟩
                    have tx17 := ti_add (a := y3_3.toInt) (b := 1) ex17 rfl (by decide +kernel) (by omega) (by omega)
                    refine lv_iinc (v := x17) (lv' := [(3, .int x17), (0, .ref (a 112)), (1, .int w1), (2, .int w2)]) hx hb dX1_isDoorClashing_97 hl (k := 0) rfl (by rw [ex17]; rfl) (by decide +kernel) rfl (fun ls hl => ?_)
                    refine lv_goto (tgt := 54) hx hb dX1_isDoorClashing_100 (by decide +kernel) ?_
                    exact ih3 i16 q16 c16 d16 x17 hI (fr_w hfi (by decide +kernel)) (fr_w hfc (by decide +kernel)) (show 0 ≤ x17.toInt ∧ x17.toInt ≤ 200 ∧ x17.toInt ≤ (i 124).toInt from by have h50 : x17.toInt = (y3_3.toInt + 1) := tx17; omega) (show CN (EB (c 113) (c 115) (c 117) w2.toInt) x17.toInt ((i16 123) : Int32).toInt from CN_y hz3_0 (by omega) (by unfold EB; omega) tx17 (by have h9 := hxp16_0; omega)) (by have h50 : x17.toInt = (y3_3.toInt + 1) := tx17; omega) _ _ _ hP hD hS (lv_sub hl [0, 1, 2, 3] rfl)
        exact lp3 _ i q c d (0 : Int32) hI (fr_w hfi (by decide +kernel)) (fr_w hfc (by decide +kernel)) (show 0 ≤ (0 : Int32).toInt ∧ (0 : Int32).toInt ≤ 200 ∧ (0 : Int32).toInt ≤ (i 124).toInt from by have h50 : (0 : Int32).toInt = 0 := (by decide +kernel); omega) (show CN (EB (c 113) (c 115) (c 117) w2.toInt) (0 : Int32).toInt ((i 123) : Int32).toInt from CN_0 (by decide +kernel) (by omega)) (Nat.lt_succ_self _) _ _ _ hP hD hS (lv_sub hl [0, 1, 2, 3] rfl)
      · have f2 := mt (ti_le (a := 10) (b := y1_3.toInt) (by decide +kernel) rfl).mpr c2
        refine lv_aload_n hx hb dX1_isDoorClashing_8 rfl (lv_at hl 1 rfl) ?_
        refine xgT_B_exitBy hx hb hts (fun _ h => List.mem_cons_of_mem _ (List.mem_append_right _ h)) hown hK hP (hts (.fieldLink RX1 31 "TalePlay$Book" "exitBy" "[I") (List.mem_cons_of_mem _ (List.mem_append_left _ (List.mem_of_getElem? (i := 15) rfl)))) dX1_isDoorClashing_9 ?_
        refine lv_iload_n hx hb dX1_isDoorClashing_12 rfl (lv_at hl 2 rfl) ?_
        refine lv_bipush (v := 10) hx hb dX1_isDoorClashing_13 (by decide +kernel) ?_
        refine lv_imul hx hb dX1_isDoorClashing_15 ?_
        refine lv_topi (fun x18 ex18 => ?_)
        have tx18 := ti_mul (a := w1.toInt) (b := 10) ex18 rfl (by decide +kernel) (by omega) (by omega)
        refine lv_iload_n hx hb dX1_isDoorClashing_16 rfl (lv_at hl 0 rfl) ?_
        refine lv_iadd hx hb dX1_isDoorClashing_17 ?_
        refine lv_topi (fun x19 ex19 => ?_)
        have tx19 := ti_add (a := (w1.toInt * 10)) (b := y1_3.toInt) ex19 tx18 rfl (by omega) (by omega)
        refine xlT_119 hx hb hK hP (vp_in_iff.mpr (by have h9 : x19.toInt = ((w1.toInt * 10) + y1_3.toInt) := tx19; omega)) dX1_isDoorClashing_18 (fun x20 ex20 => ?_)
        have rx20 : x20.toInt = -9 ∨ (0 ≤ x20.toInt ∧ x20.toInt ≤ 199) := by rw [ex20]; exact hI.2 119 _
        have gx20 : (c 119 (x19 : Int32).toNatClampNeg).toInt = x20.toInt := (congrArg Int32.toInt ex20).symm
        refine lv_istore (lv' := [(4, .int x20), (3, .int y1_3), (0, .ref (a 112)), (1, .int w1), (2, .int w2)]) hx hb dX1_isDoorClashing_19 hl (by decide +kernel) rfl (fun ls hl => ?_)
        refine lv_iload hx hb dX1_isDoorClashing_21 (lv_at hl 0 rfl) ?_
        refine lv_bipush (v := (-9)) hx hb dX1_isDoorClashing_23 (by decide +kernel) ?_
        refine lv_icmp_eq (tgt := 46) hx hb dX1_isDoorClashing_25 (by decide +kernel) (fun c21 => ?_) (fun c21 => ?_)
        · have f21 := (ti_eq (a := x20.toInt) (b := (-9)) rfl (by decide +kernel)).mp c21
          obtain ⟨x22, ex22⟩ : ∃ y : Int32, y = y1_3 + 1 := ⟨_, rfl⟩
          have tx22 := ti_add (a := y1_3.toInt) (b := 1) ex22 rfl (by decide +kernel) (by omega) (by omega)
          refine lv_iinc (v := x22) (lv' := [(3, .int x22), (4, .int x20), (0, .ref (a 112)), (1, .int w1), (2, .int w2)]) hx hb dX1_isDoorClashing_46 hl (k := 1) rfl (by rw [ex22]; rfl) (by decide +kernel) rfl (fun ls hl => ?_)
          refine lv_goto (tgt := 2) hx hb dX1_isDoorClashing_49 (by decide +kernel) ?_
          exact ih1 x22 (show 0 ≤ x22.toInt ∧ x22.toInt ≤ 10 from by have h50 : x22.toInt = (y1_3.toInt + 1) := tx22; omega) (show ∀ s : Nat, (s : Int) < x22.toInt → ¬ DP (c 119) (c 115) w1.toInt w2.toInt s from fs_go hz1_0 (by omega) (by unfold DP; rw [cl_nn (by omega), (ix_n (f := c 119) (s := x19) (show (x19 : Int32).toInt = w1.toInt * 10 + y1_3.toInt from by omega) ex20)]; omega) tx22) (show ((i 123) : Int32).toInt = 0 from by have h50 : x22.toInt = (y1_3.toInt + 1) := tx22; omega) (by have h50 : x22.toInt = (y1_3.toInt + 1) := tx22; omega) _ _ _ hP hD hS (lv_sub hl [0, 2, 3, 4] rfl)
        · have f21 := mt (ti_eq (a := x20.toInt) (b := (-9)) rfl (by decide +kernel)).mpr c21
          refine lv_aload_n hx hb dX1_isDoorClashing_28 rfl (lv_at hl 2 rfl) ?_
          refine xgT_B_bs hx hb hts (fun _ h => List.mem_cons_of_mem _ (List.mem_append_right _ h)) hown hK hP (hts (.fieldLink RX1 18 "TalePlay$Book" "bs" "[I") (List.mem_cons_of_mem _ (List.mem_append_left _ (List.mem_of_getElem? (i := 9) rfl)))) dX1_isDoorClashing_29 ?_
          refine lv_iload hx hb dX1_isDoorClashing_32 (lv_at hl 0 rfl) ?_
          refine xlT_115 hx hb hK hP (vp_in_iff.mpr (by have h9 : x20.toInt = x20.toInt := rfl; omega)) dX1_isDoorClashing_34 (fun x23 ex23 => ?_)
          have rx23 : 0 ≤ x23.toInt ∧ x23.toInt ≤ 29 := by rw [ex23]; exact hI.2 115 _
          have gx23 : (c 115 (x20 : Int32).toNatClampNeg).toInt = x23.toInt := (congrArg Int32.toInt ex23).symm
          refine lv_iload_n hx hb dX1_isDoorClashing_35 rfl (lv_at hl 4 rfl) ?_
          refine lv_icmp_ne (tgt := 46) hx hb dX1_isDoorClashing_36 (by decide +kernel) (fun c24 => ?_) (fun c24 => ?_)
          · have f24 := mt (ti_eq (a := x23.toInt) (b := w2.toInt) rfl rfl).mpr c24
            obtain ⟨x25, ex25⟩ : ∃ y : Int32, y = y1_3 + 1 := ⟨_, rfl⟩
            have tx25 := ti_add (a := y1_3.toInt) (b := 1) ex25 rfl (by decide +kernel) (by omega) (by omega)
            refine lv_iinc (v := x25) (lv' := [(3, .int x25), (4, .int x20), (0, .ref (a 112)), (1, .int w1), (2, .int w2)]) hx hb dX1_isDoorClashing_46 hl (k := 1) rfl (by rw [ex25]; rfl) (by decide +kernel) rfl (fun ls hl => ?_)
            refine lv_goto (tgt := 2) hx hb dX1_isDoorClashing_49 (by decide +kernel) ?_
            exact ih1 x25 (show 0 ≤ x25.toInt ∧ x25.toInt ≤ 10 from by have h50 : x25.toInt = (y1_3.toInt + 1) := tx25; omega) (show ∀ s : Nat, (s : Int) < x25.toInt → ¬ DP (c 119) (c 115) w1.toInt w2.toInt s from fs_go hz1_0 (by omega) (by unfold DP; rw [cl_nn (by omega), (ix_n (f := c 119) (s := x19) (show (x19 : Int32).toInt = w1.toInt * 10 + y1_3.toInt from by omega) ex20)]; omega) tx25) (show ((i 123) : Int32).toInt = 0 from by have h50 : x25.toInt = (y1_3.toInt + 1) := tx25; omega) (by have h50 : x25.toInt = (y1_3.toInt + 1) := tx25; omega) _ _ _ hP hD hS (lv_sub hl [0, 2, 3, 4] rfl)
          · have f24 := (ti_eq (a := x23.toInt) (b := w2.toInt) rfl rfl).mp c24
            refine lv_aload_n hx hb dX1_isDoorClashing_39 rfl (lv_at hl 2 rfl) ?_
            refine lv_iload hx hb dX1_isDoorClashing_40 (lv_at hl 0 rfl) ?_
            refine al_calli (va_runV (As := [.int x20]) (rest := []) ⟨hx, hb, hml, hown, hts⟩ (x_X1_addClash_e l D H.size sk a t i q c d x20 hI (show x20.toInt = -9 ∨ (0 ≤ x20.toInt ∧ x20.toInt ≤ 199) from by omega)) (cwV 1 hts gm_X1_isDoorClashing_e_X1_addClash_e_121 rfl rfl rfl (by decide +kernel) ⟨Nat.le_of_ble_eq_true rfl, Nat.le_of_ble_eq_true rfl⟩) (yB_V hN (xZ_k hZ hS hA) (xZ_n hZ hD) hK hP hD (ci := 1) (q0 := 8) rfl rfl) rfl rfl hl.1 rfl (lv_room (Nat.le_of_ble_eq_true rfl)) dX1_isDoorClashing_42 ⟨Nat.le_of_ble_eq_true rfl, Nat.le_of_ble_eq_true rfl⟩) hS hA hP hD (fun r26 u26 H locs hw26 hP hD hS => ?_)
            obtain ⟨i26, q26, c26, d26⟩ := u26
            have hw26 : ((r26.toInt = 0 ∧ (x20.toInt = -9 ∨ 30 ≤ (i 123).toInt)) ∨ (r26.toInt = 1 ∧ ¬ x20.toInt = -9 ∧ (i 123).toInt ≤ 29)) ∧ xInv i26 c26 ∧ (∀ k, k ∉ ([123] : List Nat) → i26 k = i k) ∧ (∀ k, k ∉ ([122] : List Nat) → c26 k = c k) ∧ ((i26 123).toInt = (i 123).toInt + r26.toInt) ∧ ((r26.toInt = 0 ∧ (c26 122) = (c 122)) ∨ (r26.toInt = 1 ∧ (c26 122) = upd (c 122) (i 123).toNatClampNeg x20)) := hw26
            obtain ⟨hw26, hI, hei26, hec26, hxp26_0, hxp26_1⟩ := hw26
            have hxp26_0 : (i26 123).toInt = (i 123).toInt + r26.toInt := hxp26_0
            have hxp26_1 : (r26.toInt = 0 ∧ (c26 122) = (c 122)) ∨ (r26.toInt = 1 ∧ (c26 122) = upd (c 122) (i 123).toNatClampNeg x20) := hxp26_1
            have hfi : ∀ k, k ∉ ([123] : List Nat) → i26 k = i k := fr_z hfi hei26 (by decide +kernel) (by decide +kernel)
            have hfc : ∀ k, k ∉ ([122] : List Nat) → c26 k = c k := fr_z hfc hec26 (by decide +kernel) (by decide +kernel)
            exact rw_zret (i26, q26, c26, d26) hx hb hr hlocks hS (hK.sub (tys' := []) [] rfl) hP hD (nb_n (show 0 ≤ r26.toInt ∧ r26.toInt ≤ 1 from by omega)) dX1_isDoorClashing_45 ⟨⟨(show 0 ≤ r26.toInt ∧ r26.toInt ≤ 1 from by omega), (show Sm r26 (DoX (c 119) (c 113) (c 115) (c 117) (i 124).toInt w1.toInt w2.toInt) from Or.inl ⟨by omega, Or.inl ⟨y1_3.toNatClampNeg, by rw [cl_nn (by omega)]; omega, by unfold DP; rw [cl_nn (by omega), (ix_n (f := c 119) (s := x19) (show (x19 : Int32).toInt = w1.toInt * 10 + y1_3.toInt from by omega) ex20)]; omega⟩⟩)⟩, hI, fr_w hfi (by decide +kernel), fr_w hfc (by decide +kernel)⟩
  exact lp1 _ (0 : Int32) (show 0 ≤ (0 : Int32).toInt ∧ (0 : Int32).toInt ≤ 10 from by decide +kernel) (show ∀ s : Nat, (s : Int) < (0 : Int32).toInt → ¬ DP (c 119) (c 115) w1.toInt w2.toInt s from fs_0 (by decide +kernel)) (show ((i 123) : Int32).toInt = 0 from by have h50 : (0 : Int32).toInt = 0 := (by decide +kernel); omega) (Nat.lt_succ_self _) _ _ _ hP hD hS (lv_sub hl [0, 1, 2, 3] rfl)

def wm_X1_isFlagClashing_e : List Cond := .code yX1_isFlagClashing cX1_isFlagClashing 4 (some .boolean) :: ((([.methodLink RX1 140 yX1_saying, .instanceMethod yX1_saying, .selects RX1 yX1_saying yX1_saying, .initialized RX1, .code yX1_saying cX1_saying 5 (some .int), .fieldLink RX1 34 "TalePlay$Book" "flagBy" "[I", .fieldLink RX1 21 "TalePlay$Book" "cs" "[I", .methodLink RX1 121 yX1_addClash, .instanceMethod yX1_addClash, .selects RX1 yX1_addClash yX1_addClash, .code yX1_addClash cX1_addClash 2 (some .boolean), .fieldLink RX1 118 "TalePlay$Book" "clashes" "I", .fieldLink RX1 40 "TalePlay$Book" "clashRow" "[I", .fieldLink RX1 52 "TalePlay$Book" "places" "LTalePlay$Scene;", .methodLink RX1 149 yX6_formOf, .instanceMethod yX6_formOf] : List Cond) ++ ([.selects RX6 yX6_formOf yX6_formOf, .initialized RX6, .code yX6_formOf cX6_formOf 3 (some .int), .fieldLink RX6 9 "TalePlay$Scene" "cells" "[I", .fieldLink RX1 28 "TalePlay$Book" "placeBy" "[I"] : List Cond)) ++ wsX10 ++ wsX60)
set_option maxRecDepth 20000 in
theorem gm_X1_isFlagClashing_e_X1_saying_e_140 : GoodIn wm_X1_isFlagClashing_e (wsV RX1 140 RX1 yX1_saying wm_X1_saying_e) := goodIn_w (List.forall_mem_append.mpr ⟨List.forall_mem_cons.mpr ⟨List.mem_cons_of_mem _ (List.mem_append_left _ (List.mem_append_left _ (List.mem_append_left _ (List.mem_of_getElem? (i := 0) rfl)))), List.forall_mem_cons.mpr ⟨List.mem_cons_of_mem _ (List.mem_append_left _ (List.mem_append_left _ (List.mem_append_left _ (List.mem_of_getElem? (i := 1) rfl)))), List.forall_mem_cons.mpr ⟨List.mem_cons_of_mem _ (List.mem_append_left _ (List.mem_append_left _ (List.mem_append_left _ (List.mem_of_getElem? (i := 2) rfl)))), List.forall_mem_cons.mpr ⟨List.mem_cons_of_mem _ (List.mem_append_left _ (List.mem_append_left _ (List.mem_append_left _ (List.mem_of_getElem? (i := 3) rfl)))), (fun _ h => absurd h List.not_mem_nil)⟩⟩⟩⟩, List.forall_mem_cons.mpr ⟨List.mem_cons_of_mem _ (List.mem_append_left _ (List.mem_append_left _ (List.mem_append_left _ (List.mem_of_getElem? (i := 4) rfl)))), List.forall_mem_append.mpr ⟨List.forall_mem_cons.mpr ⟨List.mem_cons_of_mem _ (List.mem_append_left _ (List.mem_append_left _ (List.mem_append_left _ (List.mem_of_getElem? (i := 5) rfl)))), List.forall_mem_cons.mpr ⟨List.mem_cons_of_mem _ (List.mem_append_left _ (List.mem_append_left _ (List.mem_append_left _ (List.mem_of_getElem? (i := 6) rfl)))), (fun _ h => absurd h List.not_mem_nil)⟩⟩, (fun _ h => List.mem_cons_of_mem _ (List.mem_append_left _ (List.mem_append_right _ h)))⟩⟩⟩) (by decide +kernel)
set_option maxRecDepth 20000 in
theorem gm_X1_isFlagClashing_e_X1_addClash_e_121 : GoodIn wm_X1_isFlagClashing_e (wsV RX1 121 RX1 yX1_addClash wm_X1_addClash_e) := goodIn_w (List.forall_mem_append.mpr ⟨List.forall_mem_cons.mpr ⟨List.mem_cons_of_mem _ (List.mem_append_left _ (List.mem_append_left _ (List.mem_append_left _ (List.mem_of_getElem? (i := 7) rfl)))), List.forall_mem_cons.mpr ⟨List.mem_cons_of_mem _ (List.mem_append_left _ (List.mem_append_left _ (List.mem_append_left _ (List.mem_of_getElem? (i := 8) rfl)))), List.forall_mem_cons.mpr ⟨List.mem_cons_of_mem _ (List.mem_append_left _ (List.mem_append_left _ (List.mem_append_left _ (List.mem_of_getElem? (i := 9) rfl)))), List.forall_mem_cons.mpr ⟨List.mem_cons_of_mem _ (List.mem_append_left _ (List.mem_append_left _ (List.mem_append_left _ (List.mem_of_getElem? (i := 3) rfl)))), (fun _ h => absurd h List.not_mem_nil)⟩⟩⟩⟩, List.forall_mem_cons.mpr ⟨List.mem_cons_of_mem _ (List.mem_append_left _ (List.mem_append_left _ (List.mem_append_left _ (List.mem_of_getElem? (i := 10) rfl)))), List.forall_mem_append.mpr ⟨List.forall_mem_cons.mpr ⟨List.mem_cons_of_mem _ (List.mem_append_left _ (List.mem_append_left _ (List.mem_append_left _ (List.mem_of_getElem? (i := 11) rfl)))), List.forall_mem_cons.mpr ⟨List.mem_cons_of_mem _ (List.mem_append_left _ (List.mem_append_left _ (List.mem_append_left _ (List.mem_of_getElem? (i := 12) rfl)))), (fun _ h => absurd h List.not_mem_nil)⟩⟩, (fun _ h => List.mem_cons_of_mem _ (List.mem_append_left _ (List.mem_append_right _ h)))⟩⟩⟩) (by decide +kernel)
set_option maxRecDepth 20000 in
theorem gm_X1_isFlagClashing_e_X6_formOf_BP_149 : GoodIn wm_X1_isFlagClashing_e (wsV RX1 149 RX6 yX6_formOf wm_X6_formOf_BP) := goodIn_w (List.forall_mem_append.mpr ⟨List.forall_mem_cons.mpr ⟨List.mem_cons_of_mem _ (List.mem_append_left _ (List.mem_append_left _ (List.mem_append_left _ (List.mem_of_getElem? (i := 14) rfl)))), List.forall_mem_cons.mpr ⟨List.mem_cons_of_mem _ (List.mem_append_left _ (List.mem_append_left _ (List.mem_append_left _ (List.mem_of_getElem? (i := 15) rfl)))), List.forall_mem_cons.mpr ⟨List.mem_cons_of_mem _ (List.mem_append_left _ (List.mem_append_left _ (List.mem_append_right _ (List.mem_of_getElem? (i := 0) rfl)))), List.forall_mem_cons.mpr ⟨List.mem_cons_of_mem _ (List.mem_append_left _ (List.mem_append_left _ (List.mem_append_right _ (List.mem_of_getElem? (i := 1) rfl)))), (fun _ h => absurd h List.not_mem_nil)⟩⟩⟩⟩, List.forall_mem_cons.mpr ⟨List.mem_cons_of_mem _ (List.mem_append_left _ (List.mem_append_left _ (List.mem_append_right _ (List.mem_of_getElem? (i := 2) rfl)))), List.forall_mem_append.mpr ⟨List.forall_mem_cons.mpr ⟨List.mem_cons_of_mem _ (List.mem_append_left _ (List.mem_append_left _ (List.mem_append_right _ (List.mem_of_getElem? (i := 3) rfl)))), (fun _ h => absurd h List.not_mem_nil)⟩, (fun _ h => List.mem_cons_of_mem _ (List.mem_append_right _ h))⟩⟩⟩) (by decide +kernel)
set_option maxHeartbeats 4000000 in
set_option maxRecDepth 100000 in
theorem x_X1_isFlagClashing_e (l : Launch) (D : va_G) (sz : Nat) (sk : Value) (a : Nat → Nat) (t : Nat → ClassId) (i : Nat → Int32) (q : Int64) (c : Nat → Nat → Int32) (d : Nat → Nat → Int64) (w1 : Int32) (f : Int32) (v1 : Int32) (hI : xInv i c) (hw1 : 0 ≤ w1.toInt ∧ w1.toInt ≤ 29) (hf : 0 ≤ f.toInt ∧ f.toInt ≤ 5) (hc0 : (i 123).toInt = 0) : Met l yX1_isFlagClashing wm_X1_isFlagClashing_e ({ frames := 1, cells := 0, slots := 0, locals := 24 }) (va_Pc [.ref (a 112), .int w1, .int f, .int v1] (yB (a 186) D sz (xwT sk a t i q c d) (xtT t))) (va_Qi (fun (r : Int32) (u : MS) => ((0 ≤ r.toInt ∧ r.toInt ≤ 1) ∧ (Sm r (FlX (c 118) (c 120) (c 116) (c 127) w1.toInt f.toInt v1.toInt))) ∧ xInv u.1 u.2.2.1 ∧ (∀ k, k ∉ ([123] : List Nat) → u.1 k = i k) ∧ (∀ k, k ∉ ([122] : List Nat) → u.2.2.1 k = c k)) (oC D (va_A (xwT sk a t i q c d) sz) (fun u : MS => xwT sk a t u.1 u.2.1 u.2.2.1 u.2.2.2) (fun _ => [])) (va_A (xwT sk a t i q c d) sz)) 0 0 (va_A (xwT sk a t i q c d) sz) := by
  refine Met.ofW (cc := cX1_isFlagClashing) (maxL := 4) (ret := (some .boolean)) (by decide +kernel) rfl ?_
  intro p e s m args below meth cd s₁ B hml hv
  obtain ⟨rfl, ⟨hsz, hP, hK, hD0⟩, hN, hZ, hBW⟩ := hv
  have hx := B.exec
  have hb := B.bytes
  have hr := B.returns
  have hts := atoms_spec (ws := wm_X1_isFlagClashing_e) B.pre
  have hown : s.vm.findClass RX1 = some m.cls := findClass_of_methodNamed B.named
  have hlocks := B.notSynchronized
  subst hsz
  have hD := hD0.self (sz := s.heap.size)
  have hZ := xZ_A hZ hP hBW
  generalize hAe : va_A (xwT sk a t i q c d) s.heap.size = A at hD hZ ⊢
  have hA : ∀ q : Nat, s.heap.size ≤ q → A q := fun q h => by rw [← hAe]; exact Or.inr h
  have hS : va_S A s.heap s.heap [] := va_S.rf
  have hfi : ∀ k, k ∉ ([] : List Nat) → i k = i k := fun _ _ => rfl
  have hfc : ∀ k, k ∉ ([] : List Nat) → c k = c k := fun _ _ => rfl
  have hl := lv_entry ([.ref (a 112), .int w1, .int f, .int v1]) (n := 4) (Nat.le_of_ble_eq_true rfl)
  rw [lg_entry_eq]
  generalize (lg_sl ([.ref (a 112), .int w1, .int f, .int v1]) ++ List.replicate (4 - (lg_sl ([.ref (a 112), .int w1, .int f, .int v1])).length) Slot.unset).toArray = ls at hl ⊢
  have hl : lv_has ls 4 [(0, .ref (a 112)), (1, .int w1), (2, .int f), (3, .int v1)] := hl
  have rb123_i : 0 ≤ (i 123).toInt ∧ (i 123).toInt ≤ 30 := hI.1 123
  refine lv_iload_n hx hb dX1_isFlagClashing_0 rfl (lv_at hl 2 rfl) ?_
  rcases (show (f.toInt < 0 ∨ 4 < f.toInt) ∨ f.toInt = 0 ∨ f.toInt = 1 ∨ f.toInt = 2 ∨ f.toInt = 3 ∨ f.toInt = 4 by omega) with f1 | f1 | f1 | f1 | f1 | f1
  · refine lv_tableOut (tgt := 127) hx hb dX1_isFlagClashing_1 f1 (by decide +kernel) ?_
    refine lv_iconst (v := 0) hx hb dX1_isFlagClashing_127 (by decide +kernel) ?_
    exact rw_zret (i, q, c, d) hx hb hr hlocks hS (hK.sub (tys' := []) [] rfl) hP hD rfl dX1_isFlagClashing_128 ⟨⟨(show 0 ≤ (0 : Int32).toInt ∧ (0 : Int32).toInt ≤ 1 from by decide +kernel), (show Sm (0 : Int32) (FlX (c 118) (c 120) (c 116) (c 127) w1.toInt f.toInt v1.toInt) from sm_0 (fun h9 => by rcases h9 with ⟨h7, h6, h9⟩ | ⟨h7, h6, h9⟩ | h9 <;> first | (exfalso; omega; done)))⟩, hI, fr_w hfi (by decide +kernel), fr_w hfc (by decide +kernel)⟩
  · refine lv_tableIn (off := 35) (tgt := 36) hx hb dX1_isFlagClashing_1 (by omega) (by omega) (by rw [f1]; rfl) (by decide +kernel) ?_
    refine lv_iload_n hx hb dX1_isFlagClashing_36 rfl (lv_at hl 3 rfl) ?_
    refine lv_iconst (v := 1) hx hb dX1_isFlagClashing_37 (by decide +kernel) ?_
    refine lv_icmp_ne (tgt := 59) hx hb dX1_isFlagClashing_38 (by decide +kernel) (fun c2 => ?_) (fun c2 => ?_)
    · have f2 := mt (ti_eq (a := v1.toInt) (b := 1) rfl (by decide +kernel)).mpr c2
      refine lv_iconst (v := 0) hx hb dX1_isFlagClashing_59 (by decide +kernel) ?_
      refine lv_goto (tgt := 128) hx hb dX1_isFlagClashing_60 (by decide +kernel) ?_
      exact rw_zret (i, q, c, d) hx hb hr hlocks hS (hK.sub (tys' := []) [] rfl) hP hD rfl dX1_isFlagClashing_128 ⟨⟨(show 0 ≤ (0 : Int32).toInt ∧ (0 : Int32).toInt ≤ 1 from by decide +kernel), (show Sm (0 : Int32) (FlX (c 118) (c 120) (c 116) (c 127) w1.toInt f.toInt v1.toInt) from sm_0 (fun h9 => by rcases h9 with ⟨h7, h6, h9⟩ | ⟨h7, h6, h9⟩ | h9 <;> first | (exfalso; omega; done)))⟩, hI, fr_w hfi (by decide +kernel), fr_w hfc (by decide +kernel)⟩
    · have f2 := (ti_eq (a := v1.toInt) (b := 1) rfl (by decide +kernel)).mp c2
      refine lv_aload_n hx hb dX1_isFlagClashing_41 rfl (lv_at hl 0 rfl) ?_
      refine lv_aload_n hx hb dX1_isFlagClashing_42 rfl (lv_at hl 0 rfl) ?_
      refine lv_iload_n hx hb dX1_isFlagClashing_43 rfl (lv_at hl 1 rfl) ?_
      refine lv_iconst (v := 1) hx hb dX1_isFlagClashing_44 (by decide +kernel) ?_
      refine lv_iconst (v := 1) hx hb dX1_isFlagClashing_45 (by decide +kernel) ?_
      refine ro_calli (va_runV (As := [.int w1, .int 1, .int 1]) (rest := [.ref (a 112)]) ⟨hx, hb, hml, hown, hts⟩ (x_X1_saying_e l D s.heap.size .null a t i q c d w1 1 1 hI (show 0 ≤ w1.toInt ∧ w1.toInt ≤ 29 from by have h91 : (1 : Int32).toInt = 1 := (by decide +kernel); have h92 : (1 : Int32).toInt = 1 := (by decide +kernel); omega) (show 0 ≤ 1 ∧ 1 ≤ 5 from by decide +kernel)) (cwV 3 hts gm_X1_isFlagClashing_e_X1_saying_e_140 rfl rfl rfl (by decide +kernel) ⟨Nat.le_of_ble_eq_true rfl, Nat.le_of_ble_eq_true rfl⟩) (yA_V hN (xZ_k hZ hS hA) (xkT_B hK) (xuT_B (sk := sk) hP) (ci := 1) (q0 := 6) rfl rfl) rfl rfl hl.1 rfl (lv_room (Nat.le_of_ble_eq_true rfl)) dX1_isFlagClashing_46 ⟨Nat.le_of_ble_eq_true rfl, Nat.le_of_ble_eq_true rfl⟩) hS hA hP (fun r3 u3 H locs hw3 hP hS => ?_)
      have hw3 : ((r3.toInt = -9 ∨ (0 ≤ r3.toInt ∧ r3.toInt ≤ 199)) ∧ ((r3.toInt = -9 ∧ ¬ SyX (c 120) (c 116) w1.toInt 1 1) ∨ (¬ r3.toInt = -9 ∧ r3 = (c 120 (w1.toInt * 6 + 1).toNat) ∧ SyX (c 120) (c 116) w1.toInt 1 1))) := hw3
      obtain ⟨hw3, hr3_0⟩ := hw3
      have hr3_0 : (r3.toInt = -9 ∧ ¬ SyX (c 120) (c 116) w1.toInt 1 1) ∨ (¬ r3.toInt = -9 ∧ r3 = (c 120 (w1.toInt * 6 + 1).toNat) ∧ SyX (c 120) (c 116) w1.toInt 1 1) := hr3_0
      refine al_calli (va_runV (As := [.int r3]) (rest := []) ⟨hx, hb, hml, hown, hts⟩ (x_X1_addClash_e l D H.size sk a t i q c d r3 hI (show r3.toInt = -9 ∨ (0 ≤ r3.toInt ∧ r3.toInt ≤ 199) from by omega)) (cwV 1 hts gm_X1_isFlagClashing_e_X1_addClash_e_121 rfl rfl rfl (by decide +kernel) ⟨Nat.le_of_ble_eq_true rfl, Nat.le_of_ble_eq_true rfl⟩) (yB_V hN (xZ_k hZ hS hA) (xZ_n hZ hD) hK hP hD (ci := 1) (q0 := 8) rfl rfl) rfl rfl hl.1 rfl (lv_room (Nat.le_of_ble_eq_true rfl)) dX1_isFlagClashing_49 ⟨Nat.le_of_ble_eq_true rfl, Nat.le_of_ble_eq_true rfl⟩) hS hA hP hD (fun r4 u4 H locs hw4 hP hD hS => ?_)
      obtain ⟨i4, q4, c4, d4⟩ := u4
      have hw4 : ((r4.toInt = 0 ∧ (r3.toInt = -9 ∨ 30 ≤ (i 123).toInt)) ∨ (r4.toInt = 1 ∧ ¬ r3.toInt = -9 ∧ (i 123).toInt ≤ 29)) ∧ xInv i4 c4 ∧ (∀ k, k ∉ ([123] : List Nat) → i4 k = i k) ∧ (∀ k, k ∉ ([122] : List Nat) → c4 k = c k) ∧ ((i4 123).toInt = (i 123).toInt + r4.toInt) ∧ ((r4.toInt = 0 ∧ (c4 122) = (c 122)) ∨ (r4.toInt = 1 ∧ (c4 122) = upd (c 122) (i 123).toNatClampNeg r3)) := hw4
      obtain ⟨hw4, hI, hei4, hec4, hxp4_0, hxp4_1⟩ := hw4
      have hxp4_0 : (i4 123).toInt = (i 123).toInt + r4.toInt := hxp4_0
      have hxp4_1 : (r4.toInt = 0 ∧ (c4 122) = (c 122)) ∨ (r4.toInt = 1 ∧ (c4 122) = upd (c 122) (i 123).toNatClampNeg r3) := hxp4_1
      have hfi : ∀ k, k ∉ ([123] : List Nat) → i4 k = i k := fr_z hfi hei4 (by decide +kernel) (by decide +kernel)
      have hfc : ∀ k, k ∉ ([122] : List Nat) → c4 k = c k := fr_z hfc hec4 (by decide +kernel) (by decide +kernel)
      refine lv_if_eq (tgt := 59) hx hb dX1_isFlagClashing_52 (by decide +kernel) (fun c5 => ?_) (fun c5 => ?_)
      · have f5 := (ti_eq (a := r4.toInt) (b := 0) rfl (by decide +kernel)).mp c5
        refine lv_iconst (v := 0) hx hb dX1_isFlagClashing_59 (by decide +kernel) ?_
        refine lv_goto (tgt := 128) hx hb dX1_isFlagClashing_60 (by decide +kernel) ?_
        exact rw_zret (i4, q4, c4, d4) hx hb hr hlocks hS (hK.sub (tys' := []) [] rfl) hP hD rfl dX1_isFlagClashing_128 ⟨⟨(show 0 ≤ (0 : Int32).toInt ∧ (0 : Int32).toInt ≤ 1 from by decide +kernel), (show Sm (0 : Int32) (FlX (c 118) (c 120) (c 116) (c 127) w1.toInt f.toInt v1.toInt) from sm_0 (fun h9 => by rcases h9 with ⟨h7, h6, h9⟩ | ⟨h7, h6, h9⟩ | h9 <;> first | (exfalso; omega; done) | (rcases hr3_0 with h8 | h8; (· exact h8.2 h9); (· exfalso; omega))))⟩, hI, fr_w hfi (by decide +kernel), fr_w hfc (by decide +kernel)⟩
      · have f5 := mt (ti_eq (a := r4.toInt) (b := 0) rfl (by decide +kernel)).mpr c5
        refine lv_iconst (v := 1) hx hb dX1_isFlagClashing_55 (by decide +kernel) ?_
        refine lv_goto (tgt := 128) hx hb dX1_isFlagClashing_56 (by decide +kernel) ?_
        exact rw_zret (i4, q4, c4, d4) hx hb hr hlocks hS (hK.sub (tys' := []) [] rfl) hP hD rfl dX1_isFlagClashing_128 ⟨⟨(show 0 ≤ (1 : Int32).toInt ∧ (1 : Int32).toInt ≤ 1 from by decide +kernel), (show Sm (1 : Int32) (FlX (c 118) (c 120) (c 116) (c 127) w1.toInt f.toInt v1.toInt) from sm_1 (by first | exact Or.inl ⟨by omega, by omega, by rcases hr3_0 with h9 | h9; (· exfalso; omega); (· exact h9.2.2)⟩ | exact Or.inr (Or.inl ⟨by omega, by omega, by rcases hr3_0 with h9 | h9; (· exfalso; omega); (· exact h9.2.2)⟩)))⟩, hI, fr_w hfi (by decide +kernel), fr_w hfc (by decide +kernel)⟩
  · refine lv_tableIn (off := 62) (tgt := 63) hx hb dX1_isFlagClashing_1 (by omega) (by omega) (by rw [f1]; rfl) (by decide +kernel) ?_
    refine lv_iload_n hx hb dX1_isFlagClashing_63 rfl (lv_at hl 3 rfl) ?_
    refine lv_iconst (v := 1) hx hb dX1_isFlagClashing_64 (by decide +kernel) ?_
    refine lv_icmp_ne (tgt := 86) hx hb dX1_isFlagClashing_65 (by decide +kernel) (fun c6 => ?_) (fun c6 => ?_)
    · have f6 := mt (ti_eq (a := v1.toInt) (b := 1) rfl (by decide +kernel)).mpr c6
      refine lv_iconst (v := 0) hx hb dX1_isFlagClashing_86 (by decide +kernel) ?_
      refine lv_goto (tgt := 128) hx hb dX1_isFlagClashing_87 (by decide +kernel) ?_
      exact rw_zret (i, q, c, d) hx hb hr hlocks hS (hK.sub (tys' := []) [] rfl) hP hD rfl dX1_isFlagClashing_128 ⟨⟨(show 0 ≤ (0 : Int32).toInt ∧ (0 : Int32).toInt ≤ 1 from by decide +kernel), (show Sm (0 : Int32) (FlX (c 118) (c 120) (c 116) (c 127) w1.toInt f.toInt v1.toInt) from sm_0 (fun h9 => by rcases h9 with ⟨h7, h6, h9⟩ | ⟨h7, h6, h9⟩ | h9 <;> first | (exfalso; omega; done)))⟩, hI, fr_w hfi (by decide +kernel), fr_w hfc (by decide +kernel)⟩
    · have f6 := (ti_eq (a := v1.toInt) (b := 1) rfl (by decide +kernel)).mp c6
      refine lv_aload_n hx hb dX1_isFlagClashing_68 rfl (lv_at hl 0 rfl) ?_
      refine lv_aload_n hx hb dX1_isFlagClashing_69 rfl (lv_at hl 0 rfl) ?_
      refine lv_iload_n hx hb dX1_isFlagClashing_70 rfl (lv_at hl 1 rfl) ?_
      refine lv_iconst (v := 0) hx hb dX1_isFlagClashing_71 (by decide +kernel) ?_
      refine lv_iconst (v := 1) hx hb dX1_isFlagClashing_72 (by decide +kernel) ?_
      refine ro_calli (va_runV (As := [.int w1, .int 0, .int 1]) (rest := [.ref (a 112)]) ⟨hx, hb, hml, hown, hts⟩ (x_X1_saying_e l D s.heap.size .null a t i q c d w1 0 1 hI (show 0 ≤ w1.toInt ∧ w1.toInt ≤ 29 from by have h91 : (0 : Int32).toInt = 0 := (by decide +kernel); have h92 : (1 : Int32).toInt = 1 := (by decide +kernel); omega) (show 0 ≤ 0 ∧ 0 ≤ 5 from by decide +kernel)) (cwV 3 hts gm_X1_isFlagClashing_e_X1_saying_e_140 rfl rfl rfl (by decide +kernel) ⟨Nat.le_of_ble_eq_true rfl, Nat.le_of_ble_eq_true rfl⟩) (yA_V hN (xZ_k hZ hS hA) (xkT_B hK) (xuT_B (sk := sk) hP) (ci := 1) (q0 := 6) rfl rfl) rfl rfl hl.1 rfl (lv_room (Nat.le_of_ble_eq_true rfl)) dX1_isFlagClashing_73 ⟨Nat.le_of_ble_eq_true rfl, Nat.le_of_ble_eq_true rfl⟩) hS hA hP (fun r7 u7 H locs hw7 hP hS => ?_)
      have hw7 : ((r7.toInt = -9 ∨ (0 ≤ r7.toInt ∧ r7.toInt ≤ 199)) ∧ ((r7.toInt = -9 ∧ ¬ SyX (c 120) (c 116) w1.toInt 0 1) ∨ (¬ r7.toInt = -9 ∧ r7 = (c 120 (w1.toInt * 6 + 0).toNat) ∧ SyX (c 120) (c 116) w1.toInt 0 1))) := hw7
      obtain ⟨hw7, hr7_0⟩ := hw7
      have hr7_0 : (r7.toInt = -9 ∧ ¬ SyX (c 120) (c 116) w1.toInt 0 1) ∨ (¬ r7.toInt = -9 ∧ r7 = (c 120 (w1.toInt * 6 + 0).toNat) ∧ SyX (c 120) (c 116) w1.toInt 0 1) := hr7_0
      refine al_calli (va_runV (As := [.int r7]) (rest := []) ⟨hx, hb, hml, hown, hts⟩ (x_X1_addClash_e l D H.size sk a t i q c d r7 hI (show r7.toInt = -9 ∨ (0 ≤ r7.toInt ∧ r7.toInt ≤ 199) from by omega)) (cwV 1 hts gm_X1_isFlagClashing_e_X1_addClash_e_121 rfl rfl rfl (by decide +kernel) ⟨Nat.le_of_ble_eq_true rfl, Nat.le_of_ble_eq_true rfl⟩) (yB_V hN (xZ_k hZ hS hA) (xZ_n hZ hD) hK hP hD (ci := 1) (q0 := 8) rfl rfl) rfl rfl hl.1 rfl (lv_room (Nat.le_of_ble_eq_true rfl)) dX1_isFlagClashing_76 ⟨Nat.le_of_ble_eq_true rfl, Nat.le_of_ble_eq_true rfl⟩) hS hA hP hD (fun r8 u8 H locs hw8 hP hD hS => ?_)
      obtain ⟨i8, q8, c8, d8⟩ := u8
      have hw8 : ((r8.toInt = 0 ∧ (r7.toInt = -9 ∨ 30 ≤ (i 123).toInt)) ∨ (r8.toInt = 1 ∧ ¬ r7.toInt = -9 ∧ (i 123).toInt ≤ 29)) ∧ xInv i8 c8 ∧ (∀ k, k ∉ ([123] : List Nat) → i8 k = i k) ∧ (∀ k, k ∉ ([122] : List Nat) → c8 k = c k) ∧ ((i8 123).toInt = (i 123).toInt + r8.toInt) ∧ ((r8.toInt = 0 ∧ (c8 122) = (c 122)) ∨ (r8.toInt = 1 ∧ (c8 122) = upd (c 122) (i 123).toNatClampNeg r7)) := hw8
      obtain ⟨hw8, hI, hei8, hec8, hxp8_0, hxp8_1⟩ := hw8
      have hxp8_0 : (i8 123).toInt = (i 123).toInt + r8.toInt := hxp8_0
      have hxp8_1 : (r8.toInt = 0 ∧ (c8 122) = (c 122)) ∨ (r8.toInt = 1 ∧ (c8 122) = upd (c 122) (i 123).toNatClampNeg r7) := hxp8_1
      have hfi : ∀ k, k ∉ ([123] : List Nat) → i8 k = i k := fr_z hfi hei8 (by decide +kernel) (by decide +kernel)
      have hfc : ∀ k, k ∉ ([122] : List Nat) → c8 k = c k := fr_z hfc hec8 (by decide +kernel) (by decide +kernel)
      refine lv_if_eq (tgt := 86) hx hb dX1_isFlagClashing_79 (by decide +kernel) (fun c9 => ?_) (fun c9 => ?_)
      · have f9 := (ti_eq (a := r8.toInt) (b := 0) rfl (by decide +kernel)).mp c9
        refine lv_iconst (v := 0) hx hb dX1_isFlagClashing_86 (by decide +kernel) ?_
        refine lv_goto (tgt := 128) hx hb dX1_isFlagClashing_87 (by decide +kernel) ?_
        exact rw_zret (i8, q8, c8, d8) hx hb hr hlocks hS (hK.sub (tys' := []) [] rfl) hP hD rfl dX1_isFlagClashing_128 ⟨⟨(show 0 ≤ (0 : Int32).toInt ∧ (0 : Int32).toInt ≤ 1 from by decide +kernel), (show Sm (0 : Int32) (FlX (c 118) (c 120) (c 116) (c 127) w1.toInt f.toInt v1.toInt) from sm_0 (fun h9 => by rcases h9 with ⟨h7, h6, h9⟩ | ⟨h7, h6, h9⟩ | h9 <;> first | (exfalso; omega; done) | (rcases hr7_0 with h8 | h8; (· exact h8.2 h9); (· exfalso; omega))))⟩, hI, fr_w hfi (by decide +kernel), fr_w hfc (by decide +kernel)⟩
      · have f9 := mt (ti_eq (a := r8.toInt) (b := 0) rfl (by decide +kernel)).mpr c9
        refine lv_iconst (v := 1) hx hb dX1_isFlagClashing_82 (by decide +kernel) ?_
        refine lv_goto (tgt := 128) hx hb dX1_isFlagClashing_83 (by decide +kernel) ?_
        exact rw_zret (i8, q8, c8, d8) hx hb hr hlocks hS (hK.sub (tys' := []) [] rfl) hP hD rfl dX1_isFlagClashing_128 ⟨⟨(show 0 ≤ (1 : Int32).toInt ∧ (1 : Int32).toInt ≤ 1 from by decide +kernel), (show Sm (1 : Int32) (FlX (c 118) (c 120) (c 116) (c 127) w1.toInt f.toInt v1.toInt) from sm_1 (by first | exact Or.inl ⟨by omega, by omega, by rcases hr7_0 with h9 | h9; (· exfalso; omega); (· exact h9.2.2)⟩ | exact Or.inr (Or.inl ⟨by omega, by omega, by rcases hr7_0 with h9 | h9; (· exfalso; omega); (· exact h9.2.2)⟩)))⟩, hI, fr_w hfi (by decide +kernel), fr_w hfc (by decide +kernel)⟩
  · refine lv_tableIn (off := 126) (tgt := 127) hx hb dX1_isFlagClashing_1 (by omega) (by omega) (by rw [f1]; rfl) (by decide +kernel) ?_
    refine lv_iconst (v := 0) hx hb dX1_isFlagClashing_127 (by decide +kernel) ?_
    exact rw_zret (i, q, c, d) hx hb hr hlocks hS (hK.sub (tys' := []) [] rfl) hP hD rfl dX1_isFlagClashing_128 ⟨⟨(show 0 ≤ (0 : Int32).toInt ∧ (0 : Int32).toInt ≤ 1 from by decide +kernel), (show Sm (0 : Int32) (FlX (c 118) (c 120) (c 116) (c 127) w1.toInt f.toInt v1.toInt) from sm_0 (fun h9 => by rcases h9 with ⟨h7, h6, h9⟩ | ⟨h7, h6, h9⟩ | h9 <;> first | (exfalso; omega; done)))⟩, hI, fr_w hfi (by decide +kernel), fr_w hfc (by decide +kernel)⟩
  · refine lv_tableIn (off := 126) (tgt := 127) hx hb dX1_isFlagClashing_1 (by omega) (by omega) (by rw [f1]; rfl) (by decide +kernel) ?_
    refine lv_iconst (v := 0) hx hb dX1_isFlagClashing_127 (by decide +kernel) ?_
    exact rw_zret (i, q, c, d) hx hb hr hlocks hS (hK.sub (tys' := []) [] rfl) hP hD rfl dX1_isFlagClashing_128 ⟨⟨(show 0 ≤ (0 : Int32).toInt ∧ (0 : Int32).toInt ≤ 1 from by decide +kernel), (show Sm (0 : Int32) (FlX (c 118) (c 120) (c 116) (c 127) w1.toInt f.toInt v1.toInt) from sm_0 (fun h9 => by rcases h9 with ⟨h7, h6, h9⟩ | ⟨h7, h6, h9⟩ | h9 <;> first | (exfalso; omega; done)))⟩, hI, fr_w hfi (by decide +kernel), fr_w hfc (by decide +kernel)⟩
  · refine lv_tableIn (off := 89) (tgt := 90) hx hb dX1_isFlagClashing_1 (by omega) (by omega) (by rw [f1]; rfl) (by decide +kernel) ?_
    refine lv_iload_n hx hb dX1_isFlagClashing_90 rfl (lv_at hl 3 rfl) ?_
    refine lv_if_ne (tgt := 123) hx hb dX1_isFlagClashing_91 (by decide +kernel) (fun c10 => ?_) (fun c10 => ?_)
    · have f10 := mt (ti_eq (a := v1.toInt) (b := 0) rfl (by decide +kernel)).mpr c10
      refine lv_iconst (v := 0) hx hb dX1_isFlagClashing_123 (by decide +kernel) ?_
      refine lv_goto (tgt := 128) hx hb dX1_isFlagClashing_124 (by decide +kernel) ?_
      exact rw_zret (i, q, c, d) hx hb hr hlocks hS (hK.sub (tys' := []) [] rfl) hP hD rfl dX1_isFlagClashing_128 ⟨⟨(show 0 ≤ (0 : Int32).toInt ∧ (0 : Int32).toInt ≤ 1 from by decide +kernel), (show Sm (0 : Int32) (FlX (c 118) (c 120) (c 116) (c 127) w1.toInt f.toInt v1.toInt) from sm_0 (fun h9 => by rcases h9 with ⟨h7, h6, h9⟩ | ⟨h7, h6, h9⟩ | h9 <;> first | (exfalso; omega; done)))⟩, hI, fr_w hfi (by decide +kernel), fr_w hfc (by decide +kernel)⟩
    · have f10 := (ti_eq (a := v1.toInt) (b := 0) rfl (by decide +kernel)).mp c10
      refine lv_aload_n hx hb dX1_isFlagClashing_94 rfl (lv_at hl 0 rfl) ?_
      refine xgT_B_places hx hb hts (fun _ h => List.mem_cons_of_mem _ (List.mem_append_left _ (List.mem_append_right _ h))) hown hK hP (hts (.fieldLink RX1 52 "TalePlay$Book" "places" "LTalePlay$Scene;") (List.mem_cons_of_mem _ (List.mem_append_left _ (List.mem_append_left _ (List.mem_append_left _ (List.mem_of_getElem? (i := 13) rfl)))))) dX1_isFlagClashing_95 ?_
      refine lv_iload_n hx hb dX1_isFlagClashing_98 rfl (lv_at hl 1 rfl) ?_
      refine ro_calli (va_runV (As := [.int w1]) (rest := []) ⟨hx, hb, hml, hown, hts⟩ (x_X6_formOf_BP l D s.heap.size .null a t i q c d w1 hI (show 0 ≤ w1.toInt ∧ w1.toInt ≤ 29 from by omega)) (cwV 1 hts gm_X1_isFlagClashing_e_X6_formOf_BP_149 rfl rfl rfl (by decide +kernel) ⟨Nat.le_of_ble_eq_true rfl, Nat.le_of_ble_eq_true rfl⟩) (yA_V hN (xZ_k hZ hS hA) (xkT_P0 hK) (xuT_P0 (sk := sk) hP) (ci := 6) (q0 := 0) rfl rfl) rfl rfl hl.1 rfl (lv_room (Nat.le_of_ble_eq_true rfl)) dX1_isFlagClashing_99 ⟨Nat.le_of_ble_eq_true rfl, Nat.le_of_ble_eq_true rfl⟩) hS hA hP (fun r11 u11 H locs hw11 hP hS => ?_)
      have hw11 : ((r11.toInt = -9 ∧ (c 127 w1.toNatClampNeg).toInt % 256 = 255) ∨ (0 ≤ r11.toInt ∧ r11.toInt ≤ 4 ∧ ¬ (c 127 w1.toNatClampNeg).toInt % 256 = 255 ∧ r11.toInt = (c 127 w1.toNatClampNeg).toInt % 8)) := hw11
      have hce : (c 127 w1.toInt.toNat).toInt = (c 127 w1.toNatClampNeg).toInt := rfl
      refine lv_iconst (v := 3) hx hb dX1_isFlagClashing_102 (by decide +kernel) ?_
      refine lv_icmp_ne (tgt := 123) hx hb dX1_isFlagClashing_103 (by decide +kernel) (fun c12 => ?_) (fun c12 => ?_)
      · have f12 := mt (ti_eq (a := r11.toInt) (b := 3) rfl (by decide +kernel)).mpr c12
        refine lv_iconst (v := 0) hx hb dX1_isFlagClashing_123 (by decide +kernel) ?_
        refine lv_goto (tgt := 128) hx hb dX1_isFlagClashing_124 (by decide +kernel) ?_
        exact rw_zret (i, q, c, d) hx hb hr hlocks hS (hK.sub (tys' := []) [] rfl) hP hD rfl dX1_isFlagClashing_128 ⟨⟨(show 0 ≤ (0 : Int32).toInt ∧ (0 : Int32).toInt ≤ 1 from by decide +kernel), (show Sm (0 : Int32) (FlX (c 118) (c 120) (c 116) (c 127) w1.toInt f.toInt v1.toInt) from sm_0 (fun h9 => by rcases h9 with ⟨h7, h6, h9⟩ | ⟨h7, h6, h9⟩ | h9 <;> first | (exfalso; omega; done)))⟩, hI, fr_w hfi (by decide +kernel), fr_w hfc (by decide +kernel)⟩
      · have f12 := (ti_eq (a := r11.toInt) (b := 3) rfl (by decide +kernel)).mp c12
        refine lv_aload_n hx hb dX1_isFlagClashing_106 rfl (lv_at hl 0 rfl) ?_
        refine lv_aload_n hx hb dX1_isFlagClashing_107 rfl (lv_at hl 0 rfl) ?_
        refine xgT_B_placeBy hx hb hts (fun _ h => List.mem_cons_of_mem _ (List.mem_append_left _ (List.mem_append_right _ h))) hown hK hP (hts (.fieldLink RX1 28 "TalePlay$Book" "placeBy" "[I") (List.mem_cons_of_mem _ (List.mem_append_left _ (List.mem_append_left _ (List.mem_append_right _ (List.mem_of_getElem? (i := 4) rfl)))))) dX1_isFlagClashing_108 ?_
        refine lv_iload_n hx hb dX1_isFlagClashing_111 rfl (lv_at hl 1 rfl) ?_
        refine xlT_118 hx hb hK hP (vp_in_iff.mpr (by have h9 : w1.toInt = w1.toInt := rfl; omega)) dX1_isFlagClashing_112 (fun x13 ex13 => ?_)
        have rx13 : x13.toInt = -9 ∨ (0 ≤ x13.toInt ∧ x13.toInt ≤ 199) := by rw [ex13]; exact hI.2 118 _
        have gx13 : (c 118 (w1 : Int32).toNatClampNeg).toInt = x13.toInt := (congrArg Int32.toInt ex13).symm
        have hpb : (c 118 w1.toInt.toNat).toInt = x13.toInt := gx13
        refine al_calli (va_runV (As := [.int x13]) (rest := []) ⟨hx, hb, hml, hown, hts⟩ (x_X1_addClash_e l D H.size sk a t i q c d x13 hI (show x13.toInt = -9 ∨ (0 ≤ x13.toInt ∧ x13.toInt ≤ 199) from by omega)) (cwV 1 hts gm_X1_isFlagClashing_e_X1_addClash_e_121 rfl rfl rfl (by decide +kernel) ⟨Nat.le_of_ble_eq_true rfl, Nat.le_of_ble_eq_true rfl⟩) (yB_V hN (xZ_k hZ hS hA) (xZ_n hZ hD) hK hP hD (ci := 1) (q0 := 8) rfl rfl) rfl rfl hl.1 rfl (lv_room (Nat.le_of_ble_eq_true rfl)) dX1_isFlagClashing_113 ⟨Nat.le_of_ble_eq_true rfl, Nat.le_of_ble_eq_true rfl⟩) hS hA hP hD (fun r14 u14 H locs hw14 hP hD hS => ?_)
        obtain ⟨i14, q14, c14, d14⟩ := u14
        have hw14 : ((r14.toInt = 0 ∧ (x13.toInt = -9 ∨ 30 ≤ (i 123).toInt)) ∨ (r14.toInt = 1 ∧ ¬ x13.toInt = -9 ∧ (i 123).toInt ≤ 29)) ∧ xInv i14 c14 ∧ (∀ k, k ∉ ([123] : List Nat) → i14 k = i k) ∧ (∀ k, k ∉ ([122] : List Nat) → c14 k = c k) ∧ ((i14 123).toInt = (i 123).toInt + r14.toInt) ∧ ((r14.toInt = 0 ∧ (c14 122) = (c 122)) ∨ (r14.toInt = 1 ∧ (c14 122) = upd (c 122) (i 123).toNatClampNeg x13)) := hw14
        obtain ⟨hw14, hI, hei14, hec14, hxp14_0, hxp14_1⟩ := hw14
        have hxp14_0 : (i14 123).toInt = (i 123).toInt + r14.toInt := hxp14_0
        have hxp14_1 : (r14.toInt = 0 ∧ (c14 122) = (c 122)) ∨ (r14.toInt = 1 ∧ (c14 122) = upd (c 122) (i 123).toNatClampNeg x13) := hxp14_1
        have hfi : ∀ k, k ∉ ([123] : List Nat) → i14 k = i k := fr_z hfi hei14 (by decide +kernel) (by decide +kernel)
        have hfc : ∀ k, k ∉ ([122] : List Nat) → c14 k = c k := fr_z hfc hec14 (by decide +kernel) (by decide +kernel)
        refine lv_if_eq (tgt := 123) hx hb dX1_isFlagClashing_116 (by decide +kernel) (fun c15 => ?_) (fun c15 => ?_)
        · have f15 := (ti_eq (a := r14.toInt) (b := 0) rfl (by decide +kernel)).mp c15
          refine lv_iconst (v := 0) hx hb dX1_isFlagClashing_123 (by decide +kernel) ?_
          refine lv_goto (tgt := 128) hx hb dX1_isFlagClashing_124 (by decide +kernel) ?_
          exact rw_zret (i14, q14, c14, d14) hx hb hr hlocks hS (hK.sub (tys' := []) [] rfl) hP hD rfl dX1_isFlagClashing_128 ⟨⟨(show 0 ≤ (0 : Int32).toInt ∧ (0 : Int32).toInt ≤ 1 from by decide +kernel), (show Sm (0 : Int32) (FlX (c 118) (c 120) (c 116) (c 127) w1.toInt f.toInt v1.toInt) from sm_0 (fun h9 => by rcases h9 with ⟨h7, h6, h9⟩ | ⟨h7, h6, h9⟩ | h9 <;> first | (exfalso; omega; done)))⟩, hI, fr_w hfi (by decide +kernel), fr_w hfc (by decide +kernel)⟩
        · have f15 := mt (ti_eq (a := r14.toInt) (b := 0) rfl (by decide +kernel)).mpr c15
          refine lv_iconst (v := 1) hx hb dX1_isFlagClashing_119 (by decide +kernel) ?_
          refine lv_goto (tgt := 128) hx hb dX1_isFlagClashing_120 (by decide +kernel) ?_
          exact rw_zret (i14, q14, c14, d14) hx hb hr hlocks hS (hK.sub (tys' := []) [] rfl) hP hD rfl dX1_isFlagClashing_128 ⟨⟨(show 0 ≤ (1 : Int32).toInt ∧ (1 : Int32).toInt ≤ 1 from by decide +kernel), (show Sm (1 : Int32) (FlX (c 118) (c 120) (c 116) (c 127) w1.toInt f.toInt v1.toInt) from sm_1 (Or.inr (Or.inr ⟨by omega, by omega, by omega, by omega, by omega⟩)))⟩, hI, fr_w hfi (by decide +kernel), fr_w hfc (by decide +kernel)⟩

def wm_X1_isClashing_e : List Cond := .code yX1_isClashing cX1_isClashing 5 (some .boolean) :: ((([.methodLink RX1 88 yX1_standingFor, .instanceMethod yX1_standingFor, .selects RX1 yX1_standingFor yX1_standingFor, .initialized RX1, .code yX1_standingFor cX1_standingFor 5 (some .int), .fieldLink RX1 28 "TalePlay$Book" "placeBy" "[I", .fieldLink RX1 31 "TalePlay$Book" "exitBy" "[I", .fieldLink RX1 34 "TalePlay$Book" "flagBy" "[I", .fieldLink RX1 37 "TalePlay$Book" "keyBy" "[I", .methodLink RX1 121 yX1_addClash, .instanceMethod yX1_addClash, .selects RX1 yX1_addClash yX1_addClash, .code yX1_addClash cX1_addClash 2 (some .boolean), .fieldLink RX1 118 "TalePlay$Book" "clashes" "I", .fieldLink RX1 40 "TalePlay$Book" "clashRow" "[I", .methodLink RX1 131 yX1_isPlaceClashing] : List Cond) ++ (([.instanceMethod yX1_isPlaceClashing, .selects RX1 yX1_isPlaceClashing yX1_isPlaceClashing, .code yX1_isPlaceClashing cX1_isPlaceClashing 4 (some .boolean), .fieldLink RX1 52 "TalePlay$Book" "places" "LTalePlay$Scene;", .methodLink RX1 134 yX6_isUp, .instanceMethod yX6_isUp, .selects RX6 yX6_isUp yX6_isUp, .initialized RX6, .code yX6_isUp cX6_isUp 5 (some .boolean), .methodLink RX6 25 yX6_holderOf, .instanceMethod yX6_holderOf, .selects RX6 yX6_holderOf yX6_holderOf, .code yX6_holderOf cX6_holderOf 3 (some .int), .fieldLink RX6 9 "TalePlay$Scene" "cells" "[I", .methodLink RX1 140 yX1_saying, .instanceMethod yX1_saying] : List Cond) ++ (([.selects RX1 yX1_saying yX1_saying, .code yX1_saying cX1_saying 5 (some .int), .fieldLink RX1 21 "TalePlay$Book" "cs" "[I", .methodLink RX1 137 yX1_addChain, .instanceMethod yX1_addChain, .selects RX1 yX1_addChain yX1_addChain, .code yX1_addChain cX1_addChain 5 none, .methodLink RX1 143 yX6_holderOf, .fieldLink RX1 43 "TalePlay$Book" "world" "LTalePlay$World;", .methodLink RX1 72 yX10_sortOf, .instanceMethod yX10_sortOf, .selects RX10 yX10_sortOf yX10_sortOf, .initialized RX10, .code yX10_sortOf cX10_sortOf 2 (some .int), .fieldLink RX10 37 "TalePlay$World" "objects" "I", .fieldLink RX10 15 "TalePlay$World" "sorts" "[I"] : List Cond) ++ (([.fieldLink RX10 21 "TalePlay$World" "kindOf" "[I", .methodLink RX1 124 yX1_isDoorClashing, .instanceMethod yX1_isDoorClashing, .selects RX1 yX1_isDoorClashing yX1_isDoorClashing, .code yX1_isDoorClashing cX1_isDoorClashing 5 (some .boolean), .fieldLink RX1 92 "TalePlay$Book" "total" "I", .methodLink RX1 146 yX1_clearClash, .instanceMethod yX1_clearClash, .selects RX1 yX1_clearClash yX1_clearClash, .code yX1_clearClash cX1_clearClash 1 none, .fieldLink RX1 24 "TalePlay$Book" "said" "[Z", .fieldLink RX1 9 "TalePlay$Book" "forms" "[I", .fieldLink RX1 18 "TalePlay$Book" "bs" "[I", .methodLink RX1 127 yX1_isFlagClashing, .instanceMethod yX1_isFlagClashing, .selects RX1 yX1_isFlagClashing yX1_isFlagClashing] : List Cond) ++ ([.code yX1_isFlagClashing cX1_isFlagClashing 4 (some .boolean), .methodLink RX1 149 yX6_formOf, .instanceMethod yX6_formOf, .selects RX6 yX6_formOf yX6_formOf, .code yX6_formOf cX6_formOf 3 (some .int)] : List Cond))))) ++ wsX10 ++ wsX60 ++ wsX100)
set_option maxRecDepth 20000 in
theorem gm_X1_isClashing_e_X1_standingFor_e_88 : GoodIn wm_X1_isClashing_e (wsV RX1 88 RX1 yX1_standingFor wm_X1_standingFor_e) := goodIn_w (List.forall_mem_append.mpr ⟨List.forall_mem_cons.mpr ⟨List.mem_cons_of_mem _ (List.mem_append_left _ (List.mem_append_left _ (List.mem_append_left _ (List.mem_append_left _ (List.mem_of_getElem? (i := 0) rfl))))), List.forall_mem_cons.mpr ⟨List.mem_cons_of_mem _ (List.mem_append_left _ (List.mem_append_left _ (List.mem_append_left _ (List.mem_append_left _ (List.mem_of_getElem? (i := 1) rfl))))), List.forall_mem_cons.mpr ⟨List.mem_cons_of_mem _ (List.mem_append_left _ (List.mem_append_left _ (List.mem_append_left _ (List.mem_append_left _ (List.mem_of_getElem? (i := 2) rfl))))), List.forall_mem_cons.mpr ⟨List.mem_cons_of_mem _ (List.mem_append_left _ (List.mem_append_left _ (List.mem_append_left _ (List.mem_append_left _ (List.mem_of_getElem? (i := 3) rfl))))), (fun _ h => absurd h List.not_mem_nil)⟩⟩⟩⟩, List.forall_mem_cons.mpr ⟨List.mem_cons_of_mem _ (List.mem_append_left _ (List.mem_append_left _ (List.mem_append_left _ (List.mem_append_left _ (List.mem_of_getElem? (i := 4) rfl))))), List.forall_mem_append.mpr ⟨List.forall_mem_cons.mpr ⟨List.mem_cons_of_mem _ (List.mem_append_left _ (List.mem_append_left _ (List.mem_append_left _ (List.mem_append_left _ (List.mem_of_getElem? (i := 5) rfl))))), List.forall_mem_cons.mpr ⟨List.mem_cons_of_mem _ (List.mem_append_left _ (List.mem_append_left _ (List.mem_append_left _ (List.mem_append_left _ (List.mem_of_getElem? (i := 6) rfl))))), List.forall_mem_cons.mpr ⟨List.mem_cons_of_mem _ (List.mem_append_left _ (List.mem_append_left _ (List.mem_append_left _ (List.mem_append_left _ (List.mem_of_getElem? (i := 7) rfl))))), List.forall_mem_cons.mpr ⟨List.mem_cons_of_mem _ (List.mem_append_left _ (List.mem_append_left _ (List.mem_append_left _ (List.mem_append_left _ (List.mem_of_getElem? (i := 8) rfl))))), (fun _ h => absurd h List.not_mem_nil)⟩⟩⟩⟩, (fun _ h => List.mem_cons_of_mem _ (List.mem_append_left _ (List.mem_append_left _ (List.mem_append_right _ h))))⟩⟩⟩) (by decide +kernel)
set_option maxRecDepth 20000 in
theorem gm_X1_isClashing_e_X1_addClash_e_121 : GoodIn wm_X1_isClashing_e (wsV RX1 121 RX1 yX1_addClash wm_X1_addClash_e) := goodIn_w (List.forall_mem_append.mpr ⟨List.forall_mem_cons.mpr ⟨List.mem_cons_of_mem _ (List.mem_append_left _ (List.mem_append_left _ (List.mem_append_left _ (List.mem_append_left _ (List.mem_of_getElem? (i := 9) rfl))))), List.forall_mem_cons.mpr ⟨List.mem_cons_of_mem _ (List.mem_append_left _ (List.mem_append_left _ (List.mem_append_left _ (List.mem_append_left _ (List.mem_of_getElem? (i := 10) rfl))))), List.forall_mem_cons.mpr ⟨List.mem_cons_of_mem _ (List.mem_append_left _ (List.mem_append_left _ (List.mem_append_left _ (List.mem_append_left _ (List.mem_of_getElem? (i := 11) rfl))))), List.forall_mem_cons.mpr ⟨List.mem_cons_of_mem _ (List.mem_append_left _ (List.mem_append_left _ (List.mem_append_left _ (List.mem_append_left _ (List.mem_of_getElem? (i := 3) rfl))))), (fun _ h => absurd h List.not_mem_nil)⟩⟩⟩⟩, List.forall_mem_cons.mpr ⟨List.mem_cons_of_mem _ (List.mem_append_left _ (List.mem_append_left _ (List.mem_append_left _ (List.mem_append_left _ (List.mem_of_getElem? (i := 12) rfl))))), List.forall_mem_append.mpr ⟨List.forall_mem_cons.mpr ⟨List.mem_cons_of_mem _ (List.mem_append_left _ (List.mem_append_left _ (List.mem_append_left _ (List.mem_append_left _ (List.mem_of_getElem? (i := 13) rfl))))), List.forall_mem_cons.mpr ⟨List.mem_cons_of_mem _ (List.mem_append_left _ (List.mem_append_left _ (List.mem_append_left _ (List.mem_append_left _ (List.mem_of_getElem? (i := 14) rfl))))), (fun _ h => absurd h List.not_mem_nil)⟩⟩, (fun _ h => List.mem_cons_of_mem _ (List.mem_append_left _ (List.mem_append_left _ (List.mem_append_right _ h))))⟩⟩⟩) (by decide +kernel)
set_option maxRecDepth 20000 in
theorem gm_X1_isClashing_e_X1_isPlaceClashing_e_131 : GoodIn wm_X1_isClashing_e (wsV RX1 131 RX1 yX1_isPlaceClashing wm_X1_isPlaceClashing_e) := goodIn_w (List.forall_mem_append.mpr ⟨List.forall_mem_cons.mpr ⟨List.mem_cons_of_mem _ (List.mem_append_left _ (List.mem_append_left _ (List.mem_append_left _ (List.mem_append_left _ (List.mem_of_getElem? (i := 15) rfl))))), List.forall_mem_cons.mpr ⟨List.mem_cons_of_mem _ (List.mem_append_left _ (List.mem_append_left _ (List.mem_append_left _ (List.mem_append_right _ (List.mem_append_left _ (List.mem_of_getElem? (i := 0) rfl)))))), List.forall_mem_cons.mpr ⟨List.mem_cons_of_mem _ (List.mem_append_left _ (List.mem_append_left _ (List.mem_append_left _ (List.mem_append_right _ (List.mem_append_left _ (List.mem_of_getElem? (i := 1) rfl)))))), List.forall_mem_cons.mpr ⟨List.mem_cons_of_mem _ (List.mem_append_left _ (List.mem_append_left _ (List.mem_append_left _ (List.mem_append_left _ (List.mem_of_getElem? (i := 3) rfl))))), (fun _ h => absurd h List.not_mem_nil)⟩⟩⟩⟩, List.forall_mem_cons.mpr ⟨List.mem_cons_of_mem _ (List.mem_append_left _ (List.mem_append_left _ (List.mem_append_left _ (List.mem_append_right _ (List.mem_append_left _ (List.mem_of_getElem? (i := 2) rfl)))))), List.forall_mem_append.mpr ⟨List.forall_mem_append.mpr ⟨List.forall_mem_append.mpr ⟨List.forall_mem_cons.mpr ⟨List.mem_cons_of_mem _ (List.mem_append_left _ (List.mem_append_left _ (List.mem_append_left _ (List.mem_append_right _ (List.mem_append_left _ (List.mem_of_getElem? (i := 3) rfl)))))), List.forall_mem_cons.mpr ⟨List.mem_cons_of_mem _ (List.mem_append_left _ (List.mem_append_left _ (List.mem_append_left _ (List.mem_append_right _ (List.mem_append_left _ (List.mem_of_getElem? (i := 4) rfl)))))), List.forall_mem_cons.mpr ⟨List.mem_cons_of_mem _ (List.mem_append_left _ (List.mem_append_left _ (List.mem_append_left _ (List.mem_append_right _ (List.mem_append_left _ (List.mem_of_getElem? (i := 5) rfl)))))), List.forall_mem_cons.mpr ⟨List.mem_cons_of_mem _ (List.mem_append_left _ (List.mem_append_left _ (List.mem_append_left _ (List.mem_append_right _ (List.mem_append_left _ (List.mem_of_getElem? (i := 6) rfl)))))), List.forall_mem_cons.mpr ⟨List.mem_cons_of_mem _ (List.mem_append_left _ (List.mem_append_left _ (List.mem_append_left _ (List.mem_append_right _ (List.mem_append_left _ (List.mem_of_getElem? (i := 7) rfl)))))), List.forall_mem_cons.mpr ⟨List.mem_cons_of_mem _ (List.mem_append_left _ (List.mem_append_left _ (List.mem_append_left _ (List.mem_append_right _ (List.mem_append_left _ (List.mem_of_getElem? (i := 8) rfl)))))), List.forall_mem_cons.mpr ⟨List.mem_cons_of_mem _ (List.mem_append_left _ (List.mem_append_left _ (List.mem_append_left _ (List.mem_append_right _ (List.mem_append_left _ (List.mem_of_getElem? (i := 9) rfl)))))), List.forall_mem_cons.mpr ⟨List.mem_cons_of_mem _ (List.mem_append_left _ (List.mem_append_left _ (List.mem_append_left _ (List.mem_append_right _ (List.mem_append_left _ (List.mem_of_getElem? (i := 10) rfl)))))), List.forall_mem_cons.mpr ⟨List.mem_cons_of_mem _ (List.mem_append_left _ (List.mem_append_left _ (List.mem_append_left _ (List.mem_append_right _ (List.mem_append_left _ (List.mem_of_getElem? (i := 11) rfl)))))), List.forall_mem_cons.mpr ⟨List.mem_cons_of_mem _ (List.mem_append_left _ (List.mem_append_left _ (List.mem_append_left _ (List.mem_append_right _ (List.mem_append_left _ (List.mem_of_getElem? (i := 12) rfl)))))), List.forall_mem_cons.mpr ⟨List.mem_cons_of_mem _ (List.mem_append_left _ (List.mem_append_left _ (List.mem_append_left _ (List.mem_append_right _ (List.mem_append_left _ (List.mem_of_getElem? (i := 13) rfl)))))), List.forall_mem_cons.mpr ⟨List.mem_cons_of_mem _ (List.mem_append_left _ (List.mem_append_left _ (List.mem_append_left _ (List.mem_append_right _ (List.mem_append_left _ (List.mem_of_getElem? (i := 14) rfl)))))), List.forall_mem_cons.mpr ⟨List.mem_cons_of_mem _ (List.mem_append_left _ (List.mem_append_left _ (List.mem_append_left _ (List.mem_append_right _ (List.mem_append_left _ (List.mem_of_getElem? (i := 15) rfl)))))), List.forall_mem_cons.mpr ⟨List.mem_cons_of_mem _ (List.mem_append_left _ (List.mem_append_left _ (List.mem_append_left _ (List.mem_append_right _ (List.mem_append_right _ (List.mem_append_left _ (List.mem_of_getElem? (i := 0) rfl))))))), List.forall_mem_cons.mpr ⟨List.mem_cons_of_mem _ (List.mem_append_left _ (List.mem_append_left _ (List.mem_append_left _ (List.mem_append_left _ (List.mem_of_getElem? (i := 3) rfl))))), List.forall_mem_cons.mpr ⟨List.mem_cons_of_mem _ (List.mem_append_left _ (List.mem_append_left _ (List.mem_append_left _ (List.mem_append_right _ (List.mem_append_right _ (List.mem_append_left _ (List.mem_of_getElem? (i := 1) rfl))))))), (fun _ h => absurd h List.not_mem_nil)⟩⟩⟩⟩⟩⟩⟩⟩⟩⟩⟩⟩⟩⟩⟩⟩, List.forall_mem_cons.mpr ⟨List.mem_cons_of_mem _ (List.mem_append_left _ (List.mem_append_left _ (List.mem_append_left _ (List.mem_append_left _ (List.mem_of_getElem? (i := 7) rfl))))), List.forall_mem_cons.mpr ⟨List.mem_cons_of_mem _ (List.mem_append_left _ (List.mem_append_left _ (List.mem_append_left _ (List.mem_append_right _ (List.mem_append_right _ (List.mem_append_left _ (List.mem_of_getElem? (i := 2) rfl))))))), List.forall_mem_cons.mpr ⟨List.mem_cons_of_mem _ (List.mem_append_left _ (List.mem_append_left _ (List.mem_append_left _ (List.mem_append_left _ (List.mem_of_getElem? (i := 9) rfl))))), List.forall_mem_cons.mpr ⟨List.mem_cons_of_mem _ (List.mem_append_left _ (List.mem_append_left _ (List.mem_append_left _ (List.mem_append_left _ (List.mem_of_getElem? (i := 10) rfl))))), List.forall_mem_cons.mpr ⟨List.mem_cons_of_mem _ (List.mem_append_left _ (List.mem_append_left _ (List.mem_append_left _ (List.mem_append_left _ (List.mem_of_getElem? (i := 11) rfl))))), List.forall_mem_cons.mpr ⟨List.mem_cons_of_mem _ (List.mem_append_left _ (List.mem_append_left _ (List.mem_append_left _ (List.mem_append_left _ (List.mem_of_getElem? (i := 12) rfl))))), List.forall_mem_cons.mpr ⟨List.mem_cons_of_mem _ (List.mem_append_left _ (List.mem_append_left _ (List.mem_append_left _ (List.mem_append_left _ (List.mem_of_getElem? (i := 13) rfl))))), List.forall_mem_cons.mpr ⟨List.mem_cons_of_mem _ (List.mem_append_left _ (List.mem_append_left _ (List.mem_append_left _ (List.mem_append_left _ (List.mem_of_getElem? (i := 14) rfl))))), List.forall_mem_cons.mpr ⟨List.mem_cons_of_mem _ (List.mem_append_left _ (List.mem_append_left _ (List.mem_append_left _ (List.mem_append_right _ (List.mem_append_right _ (List.mem_append_left _ (List.mem_of_getElem? (i := 3) rfl))))))), List.forall_mem_cons.mpr ⟨List.mem_cons_of_mem _ (List.mem_append_left _ (List.mem_append_left _ (List.mem_append_left _ (List.mem_append_right _ (List.mem_append_right _ (List.mem_append_left _ (List.mem_of_getElem? (i := 4) rfl))))))), List.forall_mem_cons.mpr ⟨List.mem_cons_of_mem _ (List.mem_append_left _ (List.mem_append_left _ (List.mem_append_left _ (List.mem_append_right _ (List.mem_append_right _ (List.mem_append_left _ (List.mem_of_getElem? (i := 5) rfl))))))), List.forall_mem_cons.mpr ⟨List.mem_cons_of_mem _ (List.mem_append_left _ (List.mem_append_left _ (List.mem_append_left _ (List.mem_append_right _ (List.mem_append_right _ (List.mem_append_left _ (List.mem_of_getElem? (i := 6) rfl))))))), List.forall_mem_cons.mpr ⟨List.mem_cons_of_mem _ (List.mem_append_left _ (List.mem_append_left _ (List.mem_append_left _ (List.mem_append_left _ (List.mem_of_getElem? (i := 5) rfl))))), List.forall_mem_cons.mpr ⟨List.mem_cons_of_mem _ (List.mem_append_left _ (List.mem_append_left _ (List.mem_append_left _ (List.mem_append_right _ (List.mem_append_right _ (List.mem_append_left _ (List.mem_of_getElem? (i := 7) rfl))))))), (fun _ h => absurd h List.not_mem_nil)⟩⟩⟩⟩⟩⟩⟩⟩⟩⟩⟩⟩⟩⟩⟩, (fun _ h => List.mem_cons_of_mem _ (List.mem_append_left _ (List.mem_append_left _ (List.mem_append_right _ h))))⟩, (fun _ h => List.mem_cons_of_mem _ (List.mem_append_left _ (List.mem_append_right _ h)))⟩⟩⟩) (by decide +kernel)
set_option maxRecDepth 20000 in
theorem gm_X1_isClashing_e_X10_sortOf_e_72 : GoodIn wm_X1_isClashing_e (wsV RX1 72 RX10 yX10_sortOf wm_X10_sortOf_e) := goodIn_w (List.forall_mem_append.mpr ⟨List.forall_mem_cons.mpr ⟨List.mem_cons_of_mem _ (List.mem_append_left _ (List.mem_append_left _ (List.mem_append_left _ (List.mem_append_right _ (List.mem_append_right _ (List.mem_append_left _ (List.mem_of_getElem? (i := 9) rfl))))))), List.forall_mem_cons.mpr ⟨List.mem_cons_of_mem _ (List.mem_append_left _ (List.mem_append_left _ (List.mem_append_left _ (List.mem_append_right _ (List.mem_append_right _ (List.mem_append_left _ (List.mem_of_getElem? (i := 10) rfl))))))), List.forall_mem_cons.mpr ⟨List.mem_cons_of_mem _ (List.mem_append_left _ (List.mem_append_left _ (List.mem_append_left _ (List.mem_append_right _ (List.mem_append_right _ (List.mem_append_left _ (List.mem_of_getElem? (i := 11) rfl))))))), List.forall_mem_cons.mpr ⟨List.mem_cons_of_mem _ (List.mem_append_left _ (List.mem_append_left _ (List.mem_append_left _ (List.mem_append_right _ (List.mem_append_right _ (List.mem_append_left _ (List.mem_of_getElem? (i := 12) rfl))))))), (fun _ h => absurd h List.not_mem_nil)⟩⟩⟩⟩, List.forall_mem_cons.mpr ⟨List.mem_cons_of_mem _ (List.mem_append_left _ (List.mem_append_left _ (List.mem_append_left _ (List.mem_append_right _ (List.mem_append_right _ (List.mem_append_left _ (List.mem_of_getElem? (i := 13) rfl))))))), List.forall_mem_append.mpr ⟨List.forall_mem_cons.mpr ⟨List.mem_cons_of_mem _ (List.mem_append_left _ (List.mem_append_left _ (List.mem_append_left _ (List.mem_append_right _ (List.mem_append_right _ (List.mem_append_left _ (List.mem_of_getElem? (i := 14) rfl))))))), List.forall_mem_cons.mpr ⟨List.mem_cons_of_mem _ (List.mem_append_left _ (List.mem_append_left _ (List.mem_append_left _ (List.mem_append_right _ (List.mem_append_right _ (List.mem_append_left _ (List.mem_of_getElem? (i := 15) rfl))))))), List.forall_mem_cons.mpr ⟨List.mem_cons_of_mem _ (List.mem_append_left _ (List.mem_append_left _ (List.mem_append_left _ (List.mem_append_right _ (List.mem_append_right _ (List.mem_append_right _ (List.mem_append_left _ (List.mem_of_getElem? (i := 0) rfl)))))))), (fun _ h => absurd h List.not_mem_nil)⟩⟩⟩, (fun _ h => List.mem_cons_of_mem _ (List.mem_append_right _ h))⟩⟩⟩) (by decide +kernel)
set_option maxRecDepth 20000 in
theorem gm_X1_isClashing_e_X1_isDoorClashing_e_124 : GoodIn wm_X1_isClashing_e (wsV RX1 124 RX1 yX1_isDoorClashing wm_X1_isDoorClashing_e) := goodIn_w (List.forall_mem_append.mpr ⟨List.forall_mem_cons.mpr ⟨List.mem_cons_of_mem _ (List.mem_append_left _ (List.mem_append_left _ (List.mem_append_left _ (List.mem_append_right _ (List.mem_append_right _ (List.mem_append_right _ (List.mem_append_left _ (List.mem_of_getElem? (i := 1) rfl)))))))), List.forall_mem_cons.mpr ⟨List.mem_cons_of_mem _ (List.mem_append_left _ (List.mem_append_left _ (List.mem_append_left _ (List.mem_append_right _ (List.mem_append_right _ (List.mem_append_right _ (List.mem_append_left _ (List.mem_of_getElem? (i := 2) rfl)))))))), List.forall_mem_cons.mpr ⟨List.mem_cons_of_mem _ (List.mem_append_left _ (List.mem_append_left _ (List.mem_append_left _ (List.mem_append_right _ (List.mem_append_right _ (List.mem_append_right _ (List.mem_append_left _ (List.mem_of_getElem? (i := 3) rfl)))))))), List.forall_mem_cons.mpr ⟨List.mem_cons_of_mem _ (List.mem_append_left _ (List.mem_append_left _ (List.mem_append_left _ (List.mem_append_left _ (List.mem_of_getElem? (i := 3) rfl))))), (fun _ h => absurd h List.not_mem_nil)⟩⟩⟩⟩, List.forall_mem_cons.mpr ⟨List.mem_cons_of_mem _ (List.mem_append_left _ (List.mem_append_left _ (List.mem_append_left _ (List.mem_append_right _ (List.mem_append_right _ (List.mem_append_right _ (List.mem_append_left _ (List.mem_of_getElem? (i := 4) rfl)))))))), List.forall_mem_append.mpr ⟨List.forall_mem_cons.mpr ⟨List.mem_cons_of_mem _ (List.mem_append_left _ (List.mem_append_left _ (List.mem_append_left _ (List.mem_append_right _ (List.mem_append_right _ (List.mem_append_right _ (List.mem_append_left _ (List.mem_of_getElem? (i := 5) rfl)))))))), List.forall_mem_cons.mpr ⟨List.mem_cons_of_mem _ (List.mem_append_left _ (List.mem_append_left _ (List.mem_append_left _ (List.mem_append_left _ (List.mem_of_getElem? (i := 13) rfl))))), List.forall_mem_cons.mpr ⟨List.mem_cons_of_mem _ (List.mem_append_left _ (List.mem_append_left _ (List.mem_append_left _ (List.mem_append_right _ (List.mem_append_right _ (List.mem_append_right _ (List.mem_append_left _ (List.mem_of_getElem? (i := 6) rfl)))))))), List.forall_mem_cons.mpr ⟨List.mem_cons_of_mem _ (List.mem_append_left _ (List.mem_append_left _ (List.mem_append_left _ (List.mem_append_right _ (List.mem_append_right _ (List.mem_append_right _ (List.mem_append_left _ (List.mem_of_getElem? (i := 7) rfl)))))))), List.forall_mem_cons.mpr ⟨List.mem_cons_of_mem _ (List.mem_append_left _ (List.mem_append_left _ (List.mem_append_left _ (List.mem_append_right _ (List.mem_append_right _ (List.mem_append_right _ (List.mem_append_left _ (List.mem_of_getElem? (i := 8) rfl)))))))), List.forall_mem_cons.mpr ⟨List.mem_cons_of_mem _ (List.mem_append_left _ (List.mem_append_left _ (List.mem_append_left _ (List.mem_append_left _ (List.mem_of_getElem? (i := 3) rfl))))), List.forall_mem_cons.mpr ⟨List.mem_cons_of_mem _ (List.mem_append_left _ (List.mem_append_left _ (List.mem_append_left _ (List.mem_append_right _ (List.mem_append_right _ (List.mem_append_right _ (List.mem_append_left _ (List.mem_of_getElem? (i := 9) rfl)))))))), List.forall_mem_cons.mpr ⟨List.mem_cons_of_mem _ (List.mem_append_left _ (List.mem_append_left _ (List.mem_append_left _ (List.mem_append_right _ (List.mem_append_right _ (List.mem_append_right _ (List.mem_append_left _ (List.mem_of_getElem? (i := 10) rfl)))))))), List.forall_mem_cons.mpr ⟨List.mem_cons_of_mem _ (List.mem_append_left _ (List.mem_append_left _ (List.mem_append_left _ (List.mem_append_right _ (List.mem_append_right _ (List.mem_append_right _ (List.mem_append_left _ (List.mem_of_getElem? (i := 11) rfl)))))))), List.forall_mem_cons.mpr ⟨List.mem_cons_of_mem _ (List.mem_append_left _ (List.mem_append_left _ (List.mem_append_left _ (List.mem_append_right _ (List.mem_append_right _ (List.mem_append_right _ (List.mem_append_left _ (List.mem_of_getElem? (i := 12) rfl)))))))), List.forall_mem_cons.mpr ⟨List.mem_cons_of_mem _ (List.mem_append_left _ (List.mem_append_left _ (List.mem_append_left _ (List.mem_append_left _ (List.mem_of_getElem? (i := 9) rfl))))), List.forall_mem_cons.mpr ⟨List.mem_cons_of_mem _ (List.mem_append_left _ (List.mem_append_left _ (List.mem_append_left _ (List.mem_append_left _ (List.mem_of_getElem? (i := 10) rfl))))), List.forall_mem_cons.mpr ⟨List.mem_cons_of_mem _ (List.mem_append_left _ (List.mem_append_left _ (List.mem_append_left _ (List.mem_append_left _ (List.mem_of_getElem? (i := 11) rfl))))), List.forall_mem_cons.mpr ⟨List.mem_cons_of_mem _ (List.mem_append_left _ (List.mem_append_left _ (List.mem_append_left _ (List.mem_append_left _ (List.mem_of_getElem? (i := 12) rfl))))), List.forall_mem_cons.mpr ⟨List.mem_cons_of_mem _ (List.mem_append_left _ (List.mem_append_left _ (List.mem_append_left _ (List.mem_append_left _ (List.mem_of_getElem? (i := 14) rfl))))), List.forall_mem_cons.mpr ⟨List.mem_cons_of_mem _ (List.mem_append_left _ (List.mem_append_left _ (List.mem_append_left _ (List.mem_append_left _ (List.mem_of_getElem? (i := 6) rfl))))), (fun _ h => absurd h List.not_mem_nil)⟩⟩⟩⟩⟩⟩⟩⟩⟩⟩⟩⟩⟩⟩⟩⟩, (fun _ h => List.mem_cons_of_mem _ (List.mem_append_left _ (List.mem_append_left _ (List.mem_append_right _ h))))⟩⟩⟩) (by decide +kernel)
set_option maxRecDepth 20000 in
theorem gm_X1_isClashing_e_X1_isFlagClashing_e_127 : GoodIn wm_X1_isClashing_e (wsV RX1 127 RX1 yX1_isFlagClashing wm_X1_isFlagClashing_e) := goodIn_w (List.forall_mem_append.mpr ⟨List.forall_mem_cons.mpr ⟨List.mem_cons_of_mem _ (List.mem_append_left _ (List.mem_append_left _ (List.mem_append_left _ (List.mem_append_right _ (List.mem_append_right _ (List.mem_append_right _ (List.mem_append_left _ (List.mem_of_getElem? (i := 13) rfl)))))))), List.forall_mem_cons.mpr ⟨List.mem_cons_of_mem _ (List.mem_append_left _ (List.mem_append_left _ (List.mem_append_left _ (List.mem_append_right _ (List.mem_append_right _ (List.mem_append_right _ (List.mem_append_left _ (List.mem_of_getElem? (i := 14) rfl)))))))), List.forall_mem_cons.mpr ⟨List.mem_cons_of_mem _ (List.mem_append_left _ (List.mem_append_left _ (List.mem_append_left _ (List.mem_append_right _ (List.mem_append_right _ (List.mem_append_right _ (List.mem_append_left _ (List.mem_of_getElem? (i := 15) rfl)))))))), List.forall_mem_cons.mpr ⟨List.mem_cons_of_mem _ (List.mem_append_left _ (List.mem_append_left _ (List.mem_append_left _ (List.mem_append_left _ (List.mem_of_getElem? (i := 3) rfl))))), (fun _ h => absurd h List.not_mem_nil)⟩⟩⟩⟩, List.forall_mem_cons.mpr ⟨List.mem_cons_of_mem _ (List.mem_append_left _ (List.mem_append_left _ (List.mem_append_left _ (List.mem_append_right _ (List.mem_append_right _ (List.mem_append_right _ (List.mem_append_right _ (List.mem_of_getElem? (i := 0) rfl)))))))), List.forall_mem_append.mpr ⟨List.forall_mem_append.mpr ⟨List.forall_mem_append.mpr ⟨List.forall_mem_cons.mpr ⟨List.mem_cons_of_mem _ (List.mem_append_left _ (List.mem_append_left _ (List.mem_append_left _ (List.mem_append_right _ (List.mem_append_left _ (List.mem_of_getElem? (i := 14) rfl)))))), List.forall_mem_cons.mpr ⟨List.mem_cons_of_mem _ (List.mem_append_left _ (List.mem_append_left _ (List.mem_append_left _ (List.mem_append_right _ (List.mem_append_left _ (List.mem_of_getElem? (i := 15) rfl)))))), List.forall_mem_cons.mpr ⟨List.mem_cons_of_mem _ (List.mem_append_left _ (List.mem_append_left _ (List.mem_append_left _ (List.mem_append_right _ (List.mem_append_right _ (List.mem_append_left _ (List.mem_of_getElem? (i := 0) rfl))))))), List.forall_mem_cons.mpr ⟨List.mem_cons_of_mem _ (List.mem_append_left _ (List.mem_append_left _ (List.mem_append_left _ (List.mem_append_left _ (List.mem_of_getElem? (i := 3) rfl))))), List.forall_mem_cons.mpr ⟨List.mem_cons_of_mem _ (List.mem_append_left _ (List.mem_append_left _ (List.mem_append_left _ (List.mem_append_right _ (List.mem_append_right _ (List.mem_append_left _ (List.mem_of_getElem? (i := 1) rfl))))))), List.forall_mem_cons.mpr ⟨List.mem_cons_of_mem _ (List.mem_append_left _ (List.mem_append_left _ (List.mem_append_left _ (List.mem_append_left _ (List.mem_of_getElem? (i := 7) rfl))))), List.forall_mem_cons.mpr ⟨List.mem_cons_of_mem _ (List.mem_append_left _ (List.mem_append_left _ (List.mem_append_left _ (List.mem_append_right _ (List.mem_append_right _ (List.mem_append_left _ (List.mem_of_getElem? (i := 2) rfl))))))), List.forall_mem_cons.mpr ⟨List.mem_cons_of_mem _ (List.mem_append_left _ (List.mem_append_left _ (List.mem_append_left _ (List.mem_append_left _ (List.mem_of_getElem? (i := 9) rfl))))), List.forall_mem_cons.mpr ⟨List.mem_cons_of_mem _ (List.mem_append_left _ (List.mem_append_left _ (List.mem_append_left _ (List.mem_append_left _ (List.mem_of_getElem? (i := 10) rfl))))), List.forall_mem_cons.mpr ⟨List.mem_cons_of_mem _ (List.mem_append_left _ (List.mem_append_left _ (List.mem_append_left _ (List.mem_append_left _ (List.mem_of_getElem? (i := 11) rfl))))), List.forall_mem_cons.mpr ⟨List.mem_cons_of_mem _ (List.mem_append_left _ (List.mem_append_left _ (List.mem_append_left _ (List.mem_append_left _ (List.mem_of_getElem? (i := 12) rfl))))), List.forall_mem_cons.mpr ⟨List.mem_cons_of_mem _ (List.mem_append_left _ (List.mem_append_left _ (List.mem_append_left _ (List.mem_append_left _ (List.mem_of_getElem? (i := 13) rfl))))), List.forall_mem_cons.mpr ⟨List.mem_cons_of_mem _ (List.mem_append_left _ (List.mem_append_left _ (List.mem_append_left _ (List.mem_append_left _ (List.mem_of_getElem? (i := 14) rfl))))), List.forall_mem_cons.mpr ⟨List.mem_cons_of_mem _ (List.mem_append_left _ (List.mem_append_left _ (List.mem_append_left _ (List.mem_append_right _ (List.mem_append_left _ (List.mem_of_getElem? (i := 3) rfl)))))), List.forall_mem_cons.mpr ⟨List.mem_cons_of_mem _ (List.mem_append_left _ (List.mem_append_left _ (List.mem_append_left _ (List.mem_append_right _ (List.mem_append_right _ (List.mem_append_right _ (List.mem_append_right _ (List.mem_of_getElem? (i := 1) rfl)))))))), List.forall_mem_cons.mpr ⟨List.mem_cons_of_mem _ (List.mem_append_left _ (List.mem_append_left _ (List.mem_append_left _ (List.mem_append_right _ (List.mem_append_right _ (List.mem_append_right _ (List.mem_append_right _ (List.mem_of_getElem? (i := 2) rfl)))))))), (fun _ h => absurd h List.not_mem_nil)⟩⟩⟩⟩⟩⟩⟩⟩⟩⟩⟩⟩⟩⟩⟩⟩, List.forall_mem_cons.mpr ⟨List.mem_cons_of_mem _ (List.mem_append_left _ (List.mem_append_left _ (List.mem_append_left _ (List.mem_append_right _ (List.mem_append_right _ (List.mem_append_right _ (List.mem_append_right _ (List.mem_of_getElem? (i := 3) rfl)))))))), List.forall_mem_cons.mpr ⟨List.mem_cons_of_mem _ (List.mem_append_left _ (List.mem_append_left _ (List.mem_append_left _ (List.mem_append_right _ (List.mem_append_left _ (List.mem_of_getElem? (i := 7) rfl)))))), List.forall_mem_cons.mpr ⟨List.mem_cons_of_mem _ (List.mem_append_left _ (List.mem_append_left _ (List.mem_append_left _ (List.mem_append_right _ (List.mem_append_right _ (List.mem_append_right _ (List.mem_append_right _ (List.mem_of_getElem? (i := 4) rfl)))))))), List.forall_mem_cons.mpr ⟨List.mem_cons_of_mem _ (List.mem_append_left _ (List.mem_append_left _ (List.mem_append_left _ (List.mem_append_right _ (List.mem_append_left _ (List.mem_of_getElem? (i := 13) rfl)))))), List.forall_mem_cons.mpr ⟨List.mem_cons_of_mem _ (List.mem_append_left _ (List.mem_append_left _ (List.mem_append_left _ (List.mem_append_left _ (List.mem_of_getElem? (i := 5) rfl))))), (fun _ h => absurd h List.not_mem_nil)⟩⟩⟩⟩⟩⟩, (fun _ h => List.mem_cons_of_mem _ (List.mem_append_left _ (List.mem_append_left _ (List.mem_append_right _ h))))⟩, (fun _ h => List.mem_cons_of_mem _ (List.mem_append_left _ (List.mem_append_right _ h)))⟩⟩⟩) (by decide +kernel)
set_option maxHeartbeats 4000000 in
set_option maxRecDepth 100000 in
theorem x_X1_isClashing_e (l : Launch) (D : va_G) (sz : Nat) (sk : Value) (a : Nat → Nat) (t : Nat → ClassId) (i : Nat → Int32) (q : Int64) (c : Nat → Nat → Int32) (d : Nat → Nat → Int64) (f : Int32) (w1 : Int32) (w2 : Int32) (w3 : Int32) (hI : xInv i c) (hf : 0 ≤ f.toInt ∧ f.toInt ≤ 7) (hw1 : 0 ≤ w1.toInt ∧ w1.toInt ≤ 29) (hfl : f.toInt = 6 → 0 ≤ w2.toInt ∧ w2.toInt ≤ 5) (hex : f.toInt = 5 → 0 ≤ w3.toInt ∧ w3.toInt ≤ 9) (hky : f.toInt = 7 → 0 ≤ w2.toInt ∧ w2.toInt ≤ 29) (hw2 : 0 ≤ w2.toInt ∧ w2.toInt ≤ 29) (hz5 : ¬ f.toInt = 5 ∨ w2.toInt < (i 111).toInt) (hc0 : (i 123).toInt = 0) (hs_A : Acy (hF (c 127))) : Met l yX1_isClashing wm_X1_isClashing_e ({ frames := 3, cells := 0, slots := 0, locals := 69 }) (va_Pc [.ref (a 112), .int f, .int w1, .int w2, .int w3] (yB (a 186) D sz (xwT sk a t i q c d) (xtT t))) (va_Qi (fun (r : Int32) (u : MS) => ((0 ≤ r.toInt ∧ r.toInt ≤ 1) ∧ (Sm r (ClX (c 113) (c 115) (c 116) (c 117) (c 118) (c 119) (c 120) (c 121) (c 127) (i 124).toInt (c 106 (c 108 w2.toInt.toNat).toNatClampNeg).toInt f.toInt w1.toInt w2.toInt w3.toInt))) ∧ xInv u.1 u.2.2.1 ∧ (∀ k, k ∉ ([123] : List Nat) → u.1 k = i k) ∧ (∀ k, k ∉ ([122] : List Nat) → u.2.2.1 k = c k)) (oC D (va_A (xwT sk a t i q c d) sz) (fun u : MS => xwT sk a t u.1 u.2.1 u.2.2.1 u.2.2.2) (fun _ => [])) (va_A (xwT sk a t i q c d) sz)) 0 0 (va_A (xwT sk a t i q c d) sz) := by
  refine Met.ofW (cc := cX1_isClashing) (maxL := 5) (ret := (some .boolean)) (by decide +kernel) rfl ?_
  intro p e s m args below meth cd s₁ B hml hv
  obtain ⟨rfl, ⟨hsz, hP, hK, hD0⟩, hN, hZ, hBW⟩ := hv
  have hx := B.exec
  have hb := B.bytes
  have hr := B.returns
  have hts := atoms_spec (ws := wm_X1_isClashing_e) B.pre
  have hown : s.vm.findClass RX1 = some m.cls := findClass_of_methodNamed B.named
  have hlocks := B.notSynchronized
  subst hsz
  have hD := hD0.self (sz := s.heap.size)
  have hZ := xZ_A hZ hP hBW
  generalize hAe : va_A (xwT sk a t i q c d) s.heap.size = A at hD hZ ⊢
  have hA : ∀ q : Nat, s.heap.size ≤ q → A q := fun q h => by rw [← hAe]; exact Or.inr h
  have hS : va_S A s.heap s.heap [] := va_S.rf
  have hfi : ∀ k, k ∉ ([] : List Nat) → i k = i k := fun _ _ => rfl
  have hfc : ∀ k, k ∉ ([] : List Nat) → c k = c k := fun _ _ => rfl
  have hl := lv_entry ([.ref (a 112), .int f, .int w1, .int w2, .int w3]) (n := 5) (Nat.le_of_ble_eq_true rfl)
  rw [lg_entry_eq]
  generalize (lg_sl ([.ref (a 112), .int f, .int w1, .int w2, .int w3]) ++ List.replicate (5 - (lg_sl ([.ref (a 112), .int f, .int w1, .int w2, .int w3])).length) Slot.unset).toArray = ls at hl ⊢
  have hl : lv_has ls 5 [(0, .ref (a 112)), (1, .int f), (2, .int w1), (3, .int w2), (4, .int w3)] := hl
  have rb123_i : 0 ≤ (i 123).toInt ∧ (i 123).toInt ≤ 30 := hI.1 123
  have rb111_i : 0 ≤ (i 111).toInt ∧ (i 111).toInt ≤ 30 := hI.1 111
  refine lv_aload_n hx hb dX1_isClashing_0 rfl (lv_at hl 0 rfl) ?_
  refine lv_aload_n hx hb dX1_isClashing_1 rfl (lv_at hl 0 rfl) ?_
  refine lv_iload_n hx hb dX1_isClashing_2 rfl (lv_at hl 1 rfl) ?_
  refine lv_iload_n hx hb dX1_isClashing_3 rfl (lv_at hl 2 rfl) ?_
  refine lv_iload_n hx hb dX1_isClashing_4 rfl (lv_at hl 3 rfl) ?_
  refine lv_iload hx hb dX1_isClashing_5 (lv_at hl 4 rfl) ?_
  refine ro_calli (va_runV (As := [.int f, .int w1, .int w2, .int w3]) (rest := [.ref (a 112)]) ⟨hx, hb, hml, hown, hts⟩ (x_X1_standingFor_e l D s.heap.size .null a t i q c d f w1 w2 w3 hI (show 0 ≤ w1.toInt ∧ w1.toInt ≤ 29 from by omega) (show f.toInt = 6 → 0 ≤ w2.toInt ∧ w2.toInt ≤ 5 from by omega) (show f.toInt = 5 → 0 ≤ w3.toInt ∧ w3.toInt ≤ 9 from by omega) (show f.toInt = 7 → 0 ≤ w2.toInt ∧ w2.toInt ≤ 29 from by omega)) (cwV 4 hts gm_X1_isClashing_e_X1_standingFor_e_88 rfl rfl rfl (by decide +kernel) ⟨Nat.le_of_ble_eq_true rfl, Nat.le_of_ble_eq_true rfl⟩) (yA_V hN (xZ_k hZ hS hA) (xkT_B hK) (xuT_B (sk := sk) hP) (ci := 1) (q0 := 6) rfl rfl) rfl rfl hl.1 rfl (lv_room (Nat.le_of_ble_eq_true rfl)) dX1_isClashing_7 ⟨Nat.le_of_ble_eq_true rfl, Nat.le_of_ble_eq_true rfl⟩) hS hA hP (fun r1 u1 H locs hw1 hP hS => ?_)
  have hw1 : ((r1.toInt = -9 ∨ (0 ≤ r1.toInt ∧ r1.toInt ≤ 199)) ∧ (r1 = sFv (c 118) (c 119) (c 120) (c 121) f.toInt w1.toInt w2.toInt w3.toInt)) := hw1
  obtain ⟨hw1, hr1_0⟩ := hw1
  have hr1_0 : r1 = sFv (c 118) (c 119) (c 120) (c 121) f.toInt w1.toInt w2.toInt w3.toInt := hr1_0
  refine al_calli (va_runV (As := [.int r1]) (rest := []) ⟨hx, hb, hml, hown, hts⟩ (x_X1_addClash_e l D H.size sk a t i q c d r1 hI (show r1.toInt = -9 ∨ (0 ≤ r1.toInt ∧ r1.toInt ≤ 199) from by omega)) (cwV 1 hts gm_X1_isClashing_e_X1_addClash_e_121 rfl rfl rfl (by decide +kernel) ⟨Nat.le_of_ble_eq_true rfl, Nat.le_of_ble_eq_true rfl⟩) (yB_V hN (xZ_k hZ hS hA) (xZ_n hZ hD) hK hP hD (ci := 1) (q0 := 8) rfl rfl) rfl rfl hl.1 rfl (lv_room (Nat.le_of_ble_eq_true rfl)) dX1_isClashing_10 ⟨Nat.le_of_ble_eq_true rfl, Nat.le_of_ble_eq_true rfl⟩) hS hA hP hD (fun r2 u2 H locs hw2 hP hD hS => ?_)
  obtain ⟨i2, q2, c2, d2⟩ := u2
  have hw2 : ((r2.toInt = 0 ∧ (r1.toInt = -9 ∨ 30 ≤ (i 123).toInt)) ∨ (r2.toInt = 1 ∧ ¬ r1.toInt = -9 ∧ (i 123).toInt ≤ 29)) ∧ xInv i2 c2 ∧ (∀ k, k ∉ ([123] : List Nat) → i2 k = i k) ∧ (∀ k, k ∉ ([122] : List Nat) → c2 k = c k) ∧ ((i2 123).toInt = (i 123).toInt + r2.toInt) ∧ ((r2.toInt = 0 ∧ (c2 122) = (c 122)) ∨ (r2.toInt = 1 ∧ (c2 122) = upd (c 122) (i 123).toNatClampNeg r1)) := hw2
  obtain ⟨hw2, hI, hei2, hec2, hxp2_0, hxp2_1⟩ := hw2
  have hxp2_0 : (i2 123).toInt = (i 123).toInt + r2.toInt := hxp2_0
  have hxp2_1 : (r2.toInt = 0 ∧ (c2 122) = (c 122)) ∨ (r2.toInt = 1 ∧ (c2 122) = upd (c 122) (i 123).toNatClampNeg r1) := hxp2_1
  have hfi : ∀ k, k ∉ ([123] : List Nat) → i2 k = i k := fr_z hfi hei2 (by decide +kernel) (by decide +kernel)
  have hfc : ∀ k, k ∉ ([122] : List Nat) → c2 k = c k := fr_z hfc hec2 (by decide +kernel) (by decide +kernel)
  refine lv_if_eq (tgt := 18) hx hb dX1_isClashing_13 (by decide +kernel) (fun c3 => ?_) (fun c3 => ?_)
  · have f3 := (ti_eq (a := r2.toInt) (b := 0) rfl (by decide +kernel)).mp c3
    have hSF : (sFv (c 118) (c 119) (c 120) (c 121) f.toInt w1.toInt w2.toInt w3.toInt).toInt = -9 := by rw [← hr1_0]; omega
    refine lv_iload_n hx hb dX1_isClashing_18 rfl (lv_at hl 1 rfl) ?_
    rcases (show (f.toInt < 5 ∨ 7 < f.toInt) ∨ f.toInt = 5 ∨ f.toInt = 6 ∨ f.toInt = 7 by omega) with f4 | f4 | f4 | f4
    · refine lv_tableOut (tgt := 88) hx hb dX1_isClashing_19 f4 (by decide +kernel) ?_
      refine lv_aload_n hx hb dX1_isClashing_88 rfl (lv_at hl 0 rfl) ?_
      refine lv_iload_n hx hb dX1_isClashing_89 rfl (lv_at hl 1 rfl) ?_
      refine lv_iload_n hx hb dX1_isClashing_90 rfl (lv_at hl 2 rfl) ?_
      refine lv_iload_n hx hb dX1_isClashing_91 rfl (lv_at hl 3 rfl) ?_
      have rb123_i2 : 0 ≤ (i2 123).toInt ∧ (i2 123).toInt ≤ 30 := hI.1 123
      refine al_calli (va_runV (As := [.int f, .int w1, .int w2]) (rest := []) ⟨hx, hb, hml, hown, hts⟩ (x_X1_isPlaceClashing_e l D H.size sk a t i2 q2 c2 d2 f w1 w2 hI (show 0 ≤ w1.toInt ∧ w1.toInt ≤ 29 from by omega) (show 0 ≤ w2.toInt ∧ w2.toInt ≤ 29 from by omega) (show ((i2 123) : Int32).toInt = 0 from by omega) (by rw [show c2 127 = c 127 from hfc 127 (by decide +kernel)]; exact hs_A)) (cwV 3 hts gm_X1_isClashing_e_X1_isPlaceClashing_e_131 rfl rfl rfl (by decide +kernel) ⟨Nat.le_of_ble_eq_true rfl, Nat.le_of_ble_eq_true rfl⟩) (yB_V hN (xZ_k hZ hS hA) (xZ_n hZ hD) hK hP hD (ci := 1) (q0 := 8) rfl rfl) rfl rfl hl.1 rfl (lv_room (Nat.le_of_ble_eq_true rfl)) dX1_isClashing_92 ⟨Nat.le_of_ble_eq_true rfl, Nat.le_of_ble_eq_true rfl⟩) hS hA hP hD (fun r5 u5 H locs hw5 hP hD hS => ?_)
      obtain ⟨i5, q5, c5, d5⟩ := u5
      have hw5 : ((0 ≤ r5.toInt ∧ r5.toInt ≤ 1) ∧ (Sm r5 (PlX (c2 127) (c2 120) (c2 116) f.toInt w1.toInt w2.toInt))) ∧ xInv i5 c5 ∧ (∀ k, k ∉ ([123] : List Nat) → i5 k = i2 k) ∧ (∀ k, k ∉ ([122] : List Nat) → c5 k = c2 k) := hw5
      obtain ⟨hw5, hI, hei5, hec5⟩ := hw5
      obtain ⟨hw5, hr5_0⟩ := hw5
      have hr5_0 : Sm r5 (PlX (c 127) (c 120) (c 116) f.toInt w1.toInt w2.toInt) := by have h9 := hr5_0; rw [show c2 116 = c 116 from hfc 116 (by decide +kernel), show c2 120 = c 120 from hfc 120 (by decide +kernel), show c2 127 = c 127 from hfc 127 (by decide +kernel)] at h9; exact h9
      have hfi : ∀ k, k ∉ ([123] : List Nat) → i5 k = i k := fr_z hfi hei5 (by decide +kernel) (by decide +kernel)
      have hfc : ∀ k, k ∉ ([122] : List Nat) → c5 k = c k := fr_z hfc hec5 (by decide +kernel) (by decide +kernel)
      exact rw_zret (i5, q5, c5, d5) hx hb hr hlocks hS (hK.sub (tys' := []) [] rfl) hP hD (nb_n (show 0 ≤ r5.toInt ∧ r5.toInt ≤ 1 from by omega)) dX1_isClashing_95 ⟨⟨(show 0 ≤ r5.toInt ∧ r5.toInt ≤ 1 from by omega), (show Sm r5 (ClX (c 113) (c 115) (c 116) (c 117) (c 118) (c 119) (c 120) (c 121) (c 127) (i 124).toInt (c 106 (c 108 w2.toInt.toNat).toNatClampNeg).toInt f.toInt w1.toInt w2.toInt w3.toInt) from sm_i hr5_0 ⟨fun h9 => Or.inr (Or.inr (Or.inr ⟨by omega, h9⟩)), fun h9 => by rcases h9 with h9 | h9 | h9 | h9; (· exact absurd hSF h9); (· omega); (· omega); (· exact h9.2)⟩)⟩, hI, fr_w hfi (by decide +kernel), fr_w hfc (by decide +kernel)⟩
    · refine lv_tableIn (off := 25) (tgt := 44) hx hb dX1_isClashing_19 (by omega) (by omega) (by rw [f4]; rfl) (by decide +kernel) ?_
      refine lv_aload_n hx hb dX1_isClashing_44 rfl (lv_at hl 0 rfl) ?_
      refine xgT_B_world hx hb hts (fun _ h => List.mem_cons_of_mem _ (List.mem_append_left _ (List.mem_append_left _ (List.mem_append_right _ h)))) hown hK hP (hts (.fieldLink RX1 43 "TalePlay$Book" "world" "LTalePlay$World;") (List.mem_cons_of_mem _ (List.mem_append_left _ (List.mem_append_left _ (List.mem_append_left _ (List.mem_append_right _ (List.mem_append_right _ (List.mem_append_left _ (List.mem_of_getElem? (i := 8) rfl))))))))) dX1_isClashing_45 ?_
      refine lv_iload_n hx hb dX1_isClashing_48 rfl (lv_at hl 3 rfl) ?_
      have rb111_i2 : 0 ≤ (i2 111).toInt ∧ (i2 111).toInt ≤ 30 := hI.1 111
      have re111_i2 : (i2 111).toInt = (i 111).toInt := congrArg Int32.toInt (hfi 111 (by decide +kernel))
      refine ro_calli (va_runV (As := [.int w2]) (rest := []) ⟨hx, hb, hml, hown, hts⟩ (x_X10_sortOf_e l D H.size .null a t i2 q2 c2 d2 w2 hI ) (cwV 1 hts gm_X1_isClashing_e_X10_sortOf_e_72 rfl rfl rfl (by decide +kernel) ⟨Nat.le_of_ble_eq_true rfl, Nat.le_of_ble_eq_true rfl⟩) (yA_V hN (xZ_k hZ hS hA) (xkT_W hK) (xuT_W (sk := sk) hP) (ci := 10) (q0 := 0) rfl rfl) rfl rfl hl.1 rfl (lv_room (Nat.le_of_ble_eq_true rfl)) dX1_isClashing_49 ⟨Nat.le_of_ble_eq_true rfl, Nat.le_of_ble_eq_true rfl⟩) hS hA hP (fun r6 u6 H locs hw6 hP hS => ?_)
      have hw6 : (((r6.toInt = -9 ∧ ¬ (0 ≤ w2.toInt ∧ w2.toInt < (i2 111).toInt)) ∨ (0 ≤ r6.toInt ∧ r6.toInt ≤ 5 ∧ 0 ≤ w2.toInt ∧ w2.toInt < (i2 111).toInt)) ∧ (SO (c2 106) (c2 108) (i2 111).toInt w2.toInt r6.toInt)) := hw6
      obtain ⟨hw6, hr6_0⟩ := hw6
      have hr6_0 : SO (c 106) (c 108) (i 111).toInt w2.toInt r6.toInt := by have h9 := hr6_0; rw [show c2 106 = c 106 from hfc 106 (by decide +kernel), show c2 108 = c 108 from hfc 108 (by decide +kernel), show i2 111 = i 111 from hfi 111 (by decide +kernel)] at h9; exact h9
      have how : r6.toInt = (c 106 (c 108 w2.toInt.toNat).toNatClampNeg).toInt := by rcases hr6_0 with h9 | h9; (· exact h9.2.2); (· exfalso; omega)
      refine lv_iconst (v := 2) hx hb dX1_isClashing_52 (by decide +kernel) ?_
      refine lv_icmp_ne (tgt := 69) hx hb dX1_isClashing_53 (by decide +kernel) (fun c7 => ?_) (fun c7 => ?_)
      · have f7 := mt (ti_eq (a := r6.toInt) (b := 2) rfl (by decide +kernel)).mpr c7
        refine lv_iconst (v := 0) hx hb dX1_isClashing_69 (by decide +kernel) ?_
        refine lv_goto (tgt := 95) hx hb dX1_isClashing_70 (by decide +kernel) ?_
        exact rw_zret (i2, q2, c2, d2) hx hb hr hlocks hS (hK.sub (tys' := []) [] rfl) hP hD rfl dX1_isClashing_95 ⟨⟨(show 0 ≤ (0 : Int32).toInt ∧ (0 : Int32).toInt ≤ 1 from by decide +kernel), (show Sm (0 : Int32) (ClX (c 113) (c 115) (c 116) (c 117) (c 118) (c 119) (c 120) (c 121) (c 127) (i 124).toInt (c 106 (c 108 w2.toInt.toNat).toNatClampNeg).toInt f.toInt w1.toInt w2.toInt w3.toInt) from sm_0 (fun h9 => by rcases h9 with h9 | h9 | h9 | h9; (· exact absurd hSF h9); (· first | (exfalso; omega; done) | exact hSF.elim h9.2.2); (· omega); (· omega)))⟩, hI, fr_w hfi (by decide +kernel), fr_w hfc (by decide +kernel)⟩
      · have f7 := (ti_eq (a := r6.toInt) (b := 2) rfl (by decide +kernel)).mp c7
        refine lv_aload_n hx hb dX1_isClashing_56 rfl (lv_at hl 0 rfl) ?_
        refine lv_iload_n hx hb dX1_isClashing_57 rfl (lv_at hl 2 rfl) ?_
        refine lv_iload_n hx hb dX1_isClashing_58 rfl (lv_at hl 3 rfl) ?_
        have rb123_i2 : 0 ≤ (i2 123).toInt ∧ (i2 123).toInt ≤ 30 := hI.1 123
        have rb124_i2 : 0 ≤ (i2 124).toInt ∧ (i2 124).toInt ≤ 200 := hI.1 124
        have re124_i2 : (i2 124).toInt = (i 124).toInt := congrArg Int32.toInt (hfi 124 (by decide +kernel))
        refine al_calli (va_runV (As := [.int w1, .int w2]) (rest := []) ⟨hx, hb, hml, hown, hts⟩ (x_X1_isDoorClashing_e l D H.size sk a t i2 q2 c2 d2 w1 w2 hI (show 0 ≤ w1.toInt ∧ w1.toInt ≤ 29 from by omega) (show 0 ≤ w2.toInt ∧ w2.toInt ≤ 29 from by omega) (show ((i2 123) : Int32).toInt = 0 from by omega)) (cwV 2 hts gm_X1_isClashing_e_X1_isDoorClashing_e_124 rfl rfl rfl (by decide +kernel) ⟨Nat.le_of_ble_eq_true rfl, Nat.le_of_ble_eq_true rfl⟩) (yB_V hN (xZ_k hZ hS hA) (xZ_n hZ hD) hK hP hD (ci := 1) (q0 := 8) rfl rfl) rfl rfl hl.1 rfl (lv_room (Nat.le_of_ble_eq_true rfl)) dX1_isClashing_59 ⟨Nat.le_of_ble_eq_true rfl, Nat.le_of_ble_eq_true rfl⟩) hS hA hP hD (fun r8 u8 H locs hw8 hP hD hS => ?_)
        obtain ⟨i8, q8, c8, d8⟩ := u8
        have hw8 : ((0 ≤ r8.toInt ∧ r8.toInt ≤ 1) ∧ (Sm r8 (DoX (c2 119) (c2 113) (c2 115) (c2 117) (i2 124).toInt w1.toInt w2.toInt))) ∧ xInv i8 c8 ∧ (∀ k, k ∉ ([123] : List Nat) → i8 k = i2 k) ∧ (∀ k, k ∉ ([122] : List Nat) → c8 k = c2 k) := hw8
        obtain ⟨hw8, hI, hei8, hec8⟩ := hw8
        obtain ⟨hw8, hr8_0⟩ := hw8
        have hr8_0 : Sm r8 (DoX (c 119) (c 113) (c 115) (c 117) (i 124).toInt w1.toInt w2.toInt) := by have h9 := hr8_0; rw [show c2 113 = c 113 from hfc 113 (by decide +kernel), show c2 115 = c 115 from hfc 115 (by decide +kernel), show c2 117 = c 117 from hfc 117 (by decide +kernel), show c2 119 = c 119 from hfc 119 (by decide +kernel), show i2 124 = i 124 from hfi 124 (by decide +kernel)] at h9; exact h9
        have hfi : ∀ k, k ∉ ([123] : List Nat) → i8 k = i k := fr_z hfi hei8 (by decide +kernel) (by decide +kernel)
        have hfc : ∀ k, k ∉ ([122] : List Nat) → c8 k = c k := fr_z hfc hec8 (by decide +kernel) (by decide +kernel)
        refine lv_if_eq (tgt := 69) hx hb dX1_isClashing_62 (by decide +kernel) (fun c9 => ?_) (fun c9 => ?_)
        · have f9 := (ti_eq (a := r8.toInt) (b := 0) rfl (by decide +kernel)).mp c9
          have s9 := sm_f hr8_0 c9
          refine lv_iconst (v := 0) hx hb dX1_isClashing_69 (by decide +kernel) ?_
          refine lv_goto (tgt := 95) hx hb dX1_isClashing_70 (by decide +kernel) ?_
          exact rw_zret (i8, q8, c8, d8) hx hb hr hlocks hS (hK.sub (tys' := []) [] rfl) hP hD rfl dX1_isClashing_95 ⟨⟨(show 0 ≤ (0 : Int32).toInt ∧ (0 : Int32).toInt ≤ 1 from by decide +kernel), (show Sm (0 : Int32) (ClX (c 113) (c 115) (c 116) (c 117) (c 118) (c 119) (c 120) (c 121) (c 127) (i 124).toInt (c 106 (c 108 w2.toInt.toNat).toNatClampNeg).toInt f.toInt w1.toInt w2.toInt w3.toInt) from sm_0 (fun h9 => by rcases h9 with h9 | h9 | h9 | h9; (· exact absurd hSF h9); (· first | (exfalso; omega; done) | exact s9 h9.2.2); (· omega); (· omega)))⟩, hI, fr_w hfi (by decide +kernel), fr_w hfc (by decide +kernel)⟩
        · have f9 := mt (ti_eq (a := r8.toInt) (b := 0) rfl (by decide +kernel)).mpr c9
          have s9 := sm_t hr8_0 c9
          refine lv_iconst (v := 1) hx hb dX1_isClashing_65 (by decide +kernel) ?_
          refine lv_goto (tgt := 95) hx hb dX1_isClashing_66 (by decide +kernel) ?_
          exact rw_zret (i8, q8, c8, d8) hx hb hr hlocks hS (hK.sub (tys' := []) [] rfl) hP hD rfl dX1_isClashing_95 ⟨⟨(show 0 ≤ (1 : Int32).toInt ∧ (1 : Int32).toInt ≤ 1 from by decide +kernel), (show Sm (1 : Int32) (ClX (c 113) (c 115) (c 116) (c 117) (c 118) (c 119) (c 120) (c 121) (c 127) (i 124).toInt (c 106 (c 108 w2.toInt.toNat).toNatClampNeg).toInt f.toInt w1.toInt w2.toInt w3.toInt) from sm_1 (Or.inr (Or.inl ⟨by omega, by omega, s9⟩)))⟩, hI, fr_w hfi (by decide +kernel), fr_w hfc (by decide +kernel)⟩
    · refine lv_tableIn (off := 54) (tgt := 73) hx hb dX1_isClashing_19 (by omega) (by omega) (by rw [f4]; rfl) (by decide +kernel) ?_
      refine lv_aload_n hx hb dX1_isClashing_73 rfl (lv_at hl 0 rfl) ?_
      refine lv_iload_n hx hb dX1_isClashing_74 rfl (lv_at hl 2 rfl) ?_
      refine lv_iload_n hx hb dX1_isClashing_75 rfl (lv_at hl 3 rfl) ?_
      refine lv_iload hx hb dX1_isClashing_76 (lv_at hl 4 rfl) ?_
      have rb123_i2 : 0 ≤ (i2 123).toInt ∧ (i2 123).toInt ≤ 30 := hI.1 123
      refine al_calli (va_runV (As := [.int w1, .int w2, .int w3]) (rest := []) ⟨hx, hb, hml, hown, hts⟩ (x_X1_isFlagClashing_e l D H.size sk a t i2 q2 c2 d2 w1 w2 w3 hI (show 0 ≤ w1.toInt ∧ w1.toInt ≤ 29 from by omega) (show 0 ≤ w2.toInt ∧ w2.toInt ≤ 5 from by omega) (show ((i2 123) : Int32).toInt = 0 from by omega)) (cwV 3 hts gm_X1_isClashing_e_X1_isFlagClashing_e_127 rfl rfl rfl (by decide +kernel) ⟨Nat.le_of_ble_eq_true rfl, Nat.le_of_ble_eq_true rfl⟩) (yB_V hN (xZ_k hZ hS hA) (xZ_n hZ hD) hK hP hD (ci := 1) (q0 := 8) rfl rfl) rfl rfl hl.1 rfl (lv_room (Nat.le_of_ble_eq_true rfl)) dX1_isClashing_78 ⟨Nat.le_of_ble_eq_true rfl, Nat.le_of_ble_eq_true rfl⟩) hS hA hP hD (fun r10 u10 H locs hw10 hP hD hS => ?_)
      obtain ⟨i10, q10, c10, d10⟩ := u10
      have hw10 : ((0 ≤ r10.toInt ∧ r10.toInt ≤ 1) ∧ (Sm r10 (FlX (c2 118) (c2 120) (c2 116) (c2 127) w1.toInt w2.toInt w3.toInt))) ∧ xInv i10 c10 ∧ (∀ k, k ∉ ([123] : List Nat) → i10 k = i2 k) ∧ (∀ k, k ∉ ([122] : List Nat) → c10 k = c2 k) := hw10
      obtain ⟨hw10, hI, hei10, hec10⟩ := hw10
      obtain ⟨hw10, hr10_0⟩ := hw10
      have hr10_0 : Sm r10 (FlX (c 118) (c 120) (c 116) (c 127) w1.toInt w2.toInt w3.toInt) := by have h9 := hr10_0; rw [show c2 116 = c 116 from hfc 116 (by decide +kernel), show c2 118 = c 118 from hfc 118 (by decide +kernel), show c2 120 = c 120 from hfc 120 (by decide +kernel), show c2 127 = c 127 from hfc 127 (by decide +kernel)] at h9; exact h9
      have hfi : ∀ k, k ∉ ([123] : List Nat) → i10 k = i k := fr_z hfi hei10 (by decide +kernel) (by decide +kernel)
      have hfc : ∀ k, k ∉ ([122] : List Nat) → c10 k = c k := fr_z hfc hec10 (by decide +kernel) (by decide +kernel)
      refine lv_goto (tgt := 95) hx hb dX1_isClashing_81 (by decide +kernel) ?_
      exact rw_zret (i10, q10, c10, d10) hx hb hr hlocks hS (hK.sub (tys' := []) [] rfl) hP hD (nb_n (show 0 ≤ r10.toInt ∧ r10.toInt ≤ 1 from by omega)) dX1_isClashing_95 ⟨⟨(show 0 ≤ r10.toInt ∧ r10.toInt ≤ 1 from by omega), (show Sm r10 (ClX (c 113) (c 115) (c 116) (c 117) (c 118) (c 119) (c 120) (c 121) (c 127) (i 124).toInt (c 106 (c 108 w2.toInt.toNat).toNatClampNeg).toInt f.toInt w1.toInt w2.toInt w3.toInt) from sm_i hr10_0 ⟨fun h9 => Or.inr (Or.inr (Or.inl ⟨by omega, h9⟩)), fun h9 => by rcases h9 with h9 | h9 | h9 | h9; (· exact absurd hSF h9); (· omega); (· exact h9.2); (· omega)⟩)⟩, hI, fr_w hfi (by decide +kernel), fr_w hfc (by decide +kernel)⟩
    · refine lv_tableIn (off := 65) (tgt := 84) hx hb dX1_isClashing_19 (by omega) (by omega) (by rw [f4]; rfl) (by decide +kernel) ?_
      refine lv_iconst (v := 0) hx hb dX1_isClashing_84 (by decide +kernel) ?_
      refine lv_goto (tgt := 95) hx hb dX1_isClashing_85 (by decide +kernel) ?_
      exact rw_zret (i2, q2, c2, d2) hx hb hr hlocks hS (hK.sub (tys' := []) [] rfl) hP hD rfl dX1_isClashing_95 ⟨⟨(show 0 ≤ (0 : Int32).toInt ∧ (0 : Int32).toInt ≤ 1 from by decide +kernel), (show Sm (0 : Int32) (ClX (c 113) (c 115) (c 116) (c 117) (c 118) (c 119) (c 120) (c 121) (c 127) (i 124).toInt (c 106 (c 108 w2.toInt.toNat).toNatClampNeg).toInt f.toInt w1.toInt w2.toInt w3.toInt) from sm_0 (fun h9 => by rcases h9 with h9 | h9 | h9 | h9; (· exact absurd hSF h9); (· first | (exfalso; omega; done) | exact hSF.elim h9.2.2); (· omega); (· omega)))⟩, hI, fr_w hfi (by decide +kernel), fr_w hfc (by decide +kernel)⟩
  · have f3 := mt (ti_eq (a := r2.toInt) (b := 0) rfl (by decide +kernel)).mpr c3
    refine lv_iconst (v := 1) hx hb dX1_isClashing_16 (by decide +kernel) ?_
    exact rw_zret (i2, q2, c2, d2) hx hb hr hlocks hS (hK.sub (tys' := []) [] rfl) hP hD rfl dX1_isClashing_17 ⟨⟨(show 0 ≤ (1 : Int32).toInt ∧ (1 : Int32).toInt ≤ 1 from by decide +kernel), (show Sm (1 : Int32) (ClX (c 113) (c 115) (c 116) (c 117) (c 118) (c 119) (c 120) (c 121) (c 127) (i 124).toInt (c 106 (c 108 w2.toInt.toNat).toNatClampNeg).toInt f.toInt w1.toInt w2.toInt w3.toInt) from sm_1 (Or.inl (by rw [← hr1_0]; omega)))⟩, hI, fr_w hfi (by decide +kernel), fr_w hfc (by decide +kernel)⟩

def wm_X1_clearClash_e : List Cond := .code yX1_clearClash cX1_clearClash 1 none :: (([.fieldLink RX1 118 "TalePlay$Book" "clashes" "I"] : List Cond) ++ wsX10)
set_option maxHeartbeats 4000000 in
set_option maxRecDepth 100000 in
theorem x_X1_clearClash_e (l : Launch) (D : va_G) (sz : Nat) (sk : Value) (a : Nat → Nat) (t : Nat → ClassId) (i : Nat → Int32) (q : Int64) (c : Nat → Nat → Int32) (d : Nat → Nat → Int64) (hI : xInv i c) : Met l yX1_clearClash wm_X1_clearClash_e ({ frames := 0, cells := 0, slots := 0, locals := 0 }) (va_Pc [.ref (a 112)] (yB (a 186) D sz (xwT sk a t i q c d) (xtT t))) (va_Qv (fun (u : MS) => True ∧ xInv u.1 u.2.2.1 ∧ (∀ k, k ∉ ([123] : List Nat) → u.1 k = i k) ∧ (∀ k, k ∉ ([] : List Nat) → u.2.2.1 k = c k) ∧ ((u.1 123).toInt = 0)) (oC D (va_A (xwT sk a t i q c d) sz) (fun u : MS => xwT sk a t u.1 u.2.1 u.2.2.1 u.2.2.2) (fun _ => [])) (va_A (xwT sk a t i q c d) sz)) 0 0 (va_A (xwT sk a t i q c d) sz) := by
  refine Met.ofW (cc := cX1_clearClash) (maxL := 1) (ret := none) (by decide +kernel) rfl ?_
  intro p e s m args below meth cd s₁ B hml hv
  obtain ⟨rfl, ⟨hsz, hP, hK, hD0⟩, hN, hZ, hBW⟩ := hv
  have hx := B.exec
  have hb := B.bytes
  have hr := B.returns
  have hts := atoms_spec (ws := wm_X1_clearClash_e) B.pre
  have hown : s.vm.findClass RX1 = some m.cls := findClass_of_methodNamed B.named
  have hlocks := B.notSynchronized
  subst hsz
  have hD := hD0.self (sz := s.heap.size)
  have hZ := xZ_A hZ hP hBW
  generalize hAe : va_A (xwT sk a t i q c d) s.heap.size = A at hD hZ ⊢
  have hA : ∀ q : Nat, s.heap.size ≤ q → A q := fun q h => by rw [← hAe]; exact Or.inr h
  have hS : va_S A s.heap s.heap [] := va_S.rf
  have hfi : ∀ k, k ∉ ([] : List Nat) → i k = i k := fun _ _ => rfl
  have hfc : ∀ k, k ∉ ([] : List Nat) → c k = c k := fun _ _ => rfl
  have hl := lv_entry ([.ref (a 112)]) (n := 1) (Nat.le_of_ble_eq_true rfl)
  rw [lg_entry_eq]
  generalize (lg_sl ([.ref (a 112)]) ++ List.replicate (1 - (lg_sl ([.ref (a 112)])).length) Slot.unset).toArray = ls at hl ⊢
  have hl : lv_has ls 1 [(0, .ref (a 112))] := hl
  refine lv_aload_n hx hb dX1_clearClash_0 rfl (lv_at hl 0 rfl) ?_
  refine lv_iconst (v := 0) hx hb dX1_clearClash_1 (by decide +kernel) ?_
  refine xpT_B_clashes hx hb hts (fun _ h => List.mem_cons_of_mem _ (List.mem_append_right _ h)) hown hK hP hD hS (hts (.fieldLink RX1 118 "TalePlay$Book" "clashes" "I") (List.mem_cons_of_mem _ (List.mem_append_left _ (List.mem_of_getElem? (i := 0) rfl)))) rfl rfl dX1_clearClash_2 (fun H locs hP hD hS => ?_)
  have hI := xInv_i hI (k := 123) (v := 0) (show 0 ≤ (0 : Int32).toInt ∧ (0 : Int32).toInt ≤ 30 from by decide +kernel)
  have hfi : ∀ k, k ∉ ([123] : List Nat) → (upd i 123 0) k = i k := fr_iz hfi (by decide +kernel) (by decide +kernel)
  exact rw_vret ((upd i 123 0), q, c, d) hx hb hr hlocks hS (hK.sub (tys' := []) [] rfl) hP hD dX1_clearClash_5 ⟨trivial, hI, fr_w hfi (by decide +kernel), fr_w hfc (by decide +kernel), (show (0 : Int32).toInt = 0 from by decide +kernel)⟩

def wm_X1_point_e : List Cond := .code yX1_point cX1_point 4 none :: (([.fieldLink RX1 15 "TalePlay$Book" "as" "[I", .fieldLink RX1 9 "TalePlay$Book" "forms" "[I", .fieldLink RX1 28 "TalePlay$Book" "placeBy" "[I", .fieldLink RX1 52 "TalePlay$Book" "places" "LTalePlay$Scene;", .fieldLink RX1 103 "TalePlay$Scene" "cells" "[I", .fieldLink RX1 18 "TalePlay$Book" "bs" "[I", .methodLink RX1 106 yX6_placed, .static yX6_placed, .initialized RX6, .code yX6_placed cX6_placed 3 (some .int), .fieldLink RX1 31 "TalePlay$Book" "exitBy" "[I", .fieldLink RX1 21 "TalePlay$Book" "cs" "[I", .fieldLink RX1 34 "TalePlay$Book" "flagBy" "[I", .fieldLink RX1 37 "TalePlay$Book" "keyBy" "[I"] : List Cond) ++ wsX10 ++ wsX60)
set_option maxRecDepth 20000 in
theorem gm_X1_point_e_X6_placed_106 : GoodIn wm_X1_point_e (va_wsS RX1 106 yX6_placed wm_X6_placed) := goodIn_w (List.forall_mem_append.mpr ⟨List.forall_mem_cons.mpr ⟨List.mem_cons_of_mem _ (List.mem_append_left _ (List.mem_append_left _ (List.mem_of_getElem? (i := 6) rfl))), List.forall_mem_cons.mpr ⟨List.mem_cons_of_mem _ (List.mem_append_left _ (List.mem_append_left _ (List.mem_of_getElem? (i := 7) rfl))), List.forall_mem_cons.mpr ⟨List.mem_cons_of_mem _ (List.mem_append_left _ (List.mem_append_left _ (List.mem_of_getElem? (i := 8) rfl))), (fun _ h => absurd h List.not_mem_nil)⟩⟩⟩, List.forall_mem_cons.mpr ⟨List.mem_cons_of_mem _ (List.mem_append_left _ (List.mem_append_left _ (List.mem_of_getElem? (i := 9) rfl))), (fun _ h => absurd h List.not_mem_nil)⟩⟩) (by decide +kernel)
set_option maxHeartbeats 4000000 in
set_option maxRecDepth 100000 in
theorem x_X1_point_e (l : Launch) (D : va_G) (sz : Nat) (sk : Value) (a : Nat → Nat) (t : Nat → ClassId) (i : Nat → Int32) (q : Int64) (c : Nat → Nat → Int32) (d : Nat → Nat → Int64) (s1 : Int32) (s2 : Int32) (hI : xInv i c) (hs1 : 0 ≤ s1.toInt ∧ s1.toInt ≤ 199) (hs2 : s2.toInt = -9 ∨ (0 ≤ s2.toInt ∧ s2.toInt ≤ 199)) (hs_F : xFl (c 113) (c 115)) : Met l yX1_point wm_X1_point_e ({ frames := 1, cells := 0, slots := 0, locals := 22 }) (va_Pc [.ref (a 112), .int s1, .int s2] (yB (a 186) D sz (xwT sk a t i q c d) (xtT t))) (va_Qv (fun (u : MS) => True ∧ xInv u.1 u.2.2.1 ∧ (∀ k, k ∉ ([] : List Nat) → u.1 k = i k) ∧ (∀ k, k ∉ ([118, 119, 120, 121, 127] : List Nat) → u.2.2.1 k = c k) ∧ (PT (c 118) (c 119) (c 120) (c 121) (c 127) (u.2.2.1 118) (u.2.2.1 119) (u.2.2.1 120) (u.2.2.1 121) (u.2.2.1 127) (c 113 s1.toNatClampNeg).toInt (c 114 s1.toNatClampNeg).toInt (c 115 s1.toNatClampNeg).toInt (c 116 s1.toNatClampNeg).toInt s2)) (oC D (va_A (xwT sk a t i q c d) sz) (fun u : MS => xwT sk a t u.1 u.2.1 u.2.2.1 u.2.2.2) (fun _ => [])) (va_A (xwT sk a t i q c d) sz)) 0 0 (va_A (xwT sk a t i q c d) sz) := by
  refine Met.ofW (cc := cX1_point) (maxL := 4) (ret := none) (by decide +kernel) rfl ?_
  intro p e s m args below meth cd s₁ B hml hv
  obtain ⟨rfl, ⟨hsz, hP, hK, hD0⟩, hN, hZ, hBW⟩ := hv
  have hx := B.exec
  have hb := B.bytes
  have hr := B.returns
  have hts := atoms_spec (ws := wm_X1_point_e) B.pre
  have hown : s.vm.findClass RX1 = some m.cls := findClass_of_methodNamed B.named
  have hlocks := B.notSynchronized
  subst hsz
  have hD := hD0.self (sz := s.heap.size)
  have hZ := xZ_A hZ hP hBW
  generalize hAe : va_A (xwT sk a t i q c d) s.heap.size = A at hD hZ ⊢
  have hA : ∀ q : Nat, s.heap.size ≤ q → A q := fun q h => by rw [← hAe]; exact Or.inr h
  have hS : va_S A s.heap s.heap [] := va_S.rf
  have hfi : ∀ k, k ∉ ([] : List Nat) → i k = i k := fun _ _ => rfl
  have hfc : ∀ k, k ∉ ([] : List Nat) → c k = c k := fun _ _ => rfl
  have hl := lv_entry ([.ref (a 112), .int s1, .int s2]) (n := 4) (Nat.le_of_ble_eq_true rfl)
  rw [lg_entry_eq]
  generalize (lg_sl ([.ref (a 112), .int s1, .int s2]) ++ List.replicate (4 - (lg_sl ([.ref (a 112), .int s1, .int s2])).length) Slot.unset).toArray = ls at hl ⊢
  have hl : lv_has ls 4 [(0, .ref (a 112)), (1, .int s1), (2, .int s2)] := hl
  refine lv_aload_n hx hb dX1_point_0 rfl (lv_at hl 0 rfl) ?_
  refine xgT_B_as hx hb hts (fun _ h => List.mem_cons_of_mem _ (List.mem_append_left _ (List.mem_append_right _ h))) hown hK hP (hts (.fieldLink RX1 15 "TalePlay$Book" "as" "[I") (List.mem_cons_of_mem _ (List.mem_append_left _ (List.mem_append_left _ (List.mem_of_getElem? (i := 0) rfl))))) dX1_point_1 ?_
  refine lv_iload_n hx hb dX1_point_4 rfl (lv_at hl 1 rfl) ?_
  refine xlT_114 hx hb hK hP (vp_in_iff.mpr (by have h9 : s1.toInt = s1.toInt := rfl; omega)) dX1_point_5 (fun x1 ex1 => ?_)
  have rx1 : 0 ≤ x1.toInt ∧ x1.toInt ≤ 29 := by rw [ex1]; exact hI.2 114 _
  have gx1 : (c 114 (s1 : Int32).toNatClampNeg).toInt = x1.toInt := (congrArg Int32.toInt ex1).symm
  refine lv_istore_n (lv' := [(3, .int x1), (0, .ref (a 112)), (1, .int s1), (2, .int s2)]) hx hb dX1_point_6 rfl hl (by decide +kernel) rfl (fun ls hl => ?_)
  refine lv_aload_n hx hb dX1_point_7 rfl (lv_at hl 1 rfl) ?_
  refine xgT_B_forms hx hb hts (fun _ h => List.mem_cons_of_mem _ (List.mem_append_left _ (List.mem_append_right _ h))) hown hK hP (hts (.fieldLink RX1 9 "TalePlay$Book" "forms" "[I") (List.mem_cons_of_mem _ (List.mem_append_left _ (List.mem_append_left _ (List.mem_of_getElem? (i := 1) rfl))))) dX1_point_8 ?_
  refine lv_iload_n hx hb dX1_point_11 rfl (lv_at hl 2 rfl) ?_
  refine xlT_113 hx hb hK hP (vp_in_iff.mpr (by have h9 : s1.toInt = s1.toInt := rfl; omega)) dX1_point_12 (fun x2 ex2 => ?_)
  have rx2 : 0 ≤ x2.toInt ∧ x2.toInt ≤ 7 := by rw [ex2]; exact hI.2 113 _
  have gx2 : (c 113 (s1 : Int32).toNatClampNeg).toInt = x2.toInt := (congrArg Int32.toInt ex2).symm
  rcases (show (x2.toInt < 5 ∨ 7 < x2.toInt) ∨ x2.toInt = 5 ∨ x2.toInt = 6 ∨ x2.toInt = 7 by omega) with f3 | f3 | f3 | f3
  · refine lv_tableOut (tgt := 95) hx hb dX1_point_13 f3 (by decide +kernel) ?_
    refine lv_aload_n hx hb dX1_point_95 rfl (lv_at hl 1 rfl) ?_
    refine xgT_B_placeBy hx hb hts (fun _ h => List.mem_cons_of_mem _ (List.mem_append_left _ (List.mem_append_right _ h))) hown hK hP (hts (.fieldLink RX1 28 "TalePlay$Book" "placeBy" "[I") (List.mem_cons_of_mem _ (List.mem_append_left _ (List.mem_append_left _ (List.mem_of_getElem? (i := 2) rfl))))) dX1_point_96 ?_
    refine lv_iload_n hx hb dX1_point_99 rfl (lv_at hl 0 rfl) ?_
    refine lv_iload_n hx hb dX1_point_100 rfl (lv_at hl 3 rfl) ?_
    refine xsT_118 hx hb hK hP hD hS (vp_in_iff.mpr (by have h9 : x1.toInt = x1.toInt := rfl; omega)) dX1_point_101 (fun H locs hP hD hS => ?_)
    have hI := xInv_c hI (k := 118) (j := (x1 : Int32).toNatClampNeg) (x := s2) (show (s2 : Int32).toInt = -9 ∨ (0 ≤ (s2 : Int32).toInt ∧ (s2 : Int32).toInt ≤ 199) from by omega)
    have hfc : ∀ k, k ∉ ([118] : List Nat) → (updA c 118 (x1 : Int32).toNatClampNeg s2) k = c k := fr_cz hfc (by decide +kernel) (by decide +kernel)
    refine lv_aload_n hx hb dX1_point_102 rfl (lv_at hl 1 rfl) ?_
    refine xgT_B_places hx hb hts (fun _ h => List.mem_cons_of_mem _ (List.mem_append_left _ (List.mem_append_right _ h))) hown hK hP (hts (.fieldLink RX1 52 "TalePlay$Book" "places" "LTalePlay$Scene;") (List.mem_cons_of_mem _ (List.mem_append_left _ (List.mem_append_left _ (List.mem_of_getElem? (i := 3) rfl))))) dX1_point_103 ?_
    refine xgT_BP_cells hx hb hts (fun _ h => List.mem_cons_of_mem _ (List.mem_append_right _ h)) hown hK hP (hts (.fieldLink RX1 103 "TalePlay$Scene" "cells" "[I") (List.mem_cons_of_mem _ (List.mem_append_left _ (List.mem_append_left _ (List.mem_of_getElem? (i := 4) rfl))))) dX1_point_106 ?_
    refine lv_iload_n hx hb dX1_point_109 rfl (lv_at hl 0 rfl) ?_
    refine lv_iload_n hx hb dX1_point_110 rfl (lv_at hl 3 rfl) ?_
    refine lv_bipush (v := (-9)) hx hb dX1_point_111 (by decide +kernel) ?_
    refine lv_icmp_ne (tgt := 122) hx hb dX1_point_113 (by decide +kernel) (fun c4 => ?_) (fun c4 => ?_)
    · have f4 := mt (ti_eq (a := s2.toInt) (b := (-9)) rfl (by decide +kernel)).mpr c4
      refine lv_iconst (v := 0) hx hb dX1_point_122 (by decide +kernel) ?_
      refine lv_aload_n hx hb dX1_point_123 rfl (lv_at hl 1 rfl) ?_
      refine xgT_B_forms hx hb hts (fun _ h => List.mem_cons_of_mem _ (List.mem_append_left _ (List.mem_append_right _ h))) hown hK hP (hts (.fieldLink RX1 9 "TalePlay$Book" "forms" "[I") (List.mem_cons_of_mem _ (List.mem_append_left _ (List.mem_append_left _ (List.mem_of_getElem? (i := 1) rfl))))) dX1_point_124 ?_
      refine lv_iload_n hx hb dX1_point_127 rfl (lv_at hl 2 rfl) ?_
      refine xlT_113 hx hb hK hP (vp_in_iff.mpr (by have h9 : s1.toInt = s1.toInt := rfl; omega)) dX1_point_128 (fun x5 ex5 => ?_)
      have rx5 : 0 ≤ x5.toInt ∧ x5.toInt ≤ 7 := by rw [ex5]; exact hI.2 113 _
      have gx5 : (c 113 (s1 : Int32).toNatClampNeg).toInt = x5.toInt := (congrArg Int32.toInt ex5).symm
      refine lv_aload_n hx hb dX1_point_129 rfl (lv_at hl 1 rfl) ?_
      refine xgT_B_bs hx hb hts (fun _ h => List.mem_cons_of_mem _ (List.mem_append_left _ (List.mem_append_right _ h))) hown hK hP (hts (.fieldLink RX1 18 "TalePlay$Book" "bs" "[I") (List.mem_cons_of_mem _ (List.mem_append_left _ (List.mem_append_left _ (List.mem_of_getElem? (i := 5) rfl))))) dX1_point_130 ?_
      refine lv_iload_n hx hb dX1_point_133 rfl (lv_at hl 2 rfl) ?_
      refine xlT_115 hx hb hK hP (vp_in_iff.mpr (by have h9 : s1.toInt = s1.toInt := rfl; omega)) dX1_point_134 (fun x6 ex6 => ?_)
      have rx6 : 0 ≤ x6.toInt ∧ x6.toInt ≤ 29 := by rw [ex6]; exact hI.2 115 _
      have gx6 : (c 115 (s1 : Int32).toNatClampNeg).toInt = x6.toInt := (congrArg Int32.toInt ex6).symm
      have hPc := hP.sub (ws' := []) [] rfl
      have hKc := hK.sub (tys' := []) [] rfl
      refine ro_calli (va_runS (As := [.int 0, .int x5, .int x6]) (rest := [.int x1, .ref (a 127)]) ⟨hx, hb, hml, hown, hts⟩ (c_X6_placed l D H.size 0 x5 x6 0 x5.toInt x6.toInt (by decide +kernel) rfl rfl (by omega) (by omega) (by omega)) (va_cwS 3 hts gm_X1_point_e_X6_placed_106 rfl rfl rfl (by decide +kernel) ⟨Nat.le_of_ble_eq_true rfl, Nat.le_of_ble_eq_true rfl⟩) (pA_S hKc hPc) rfl rfl hl.1 rfl (lv_room (Nat.le_of_ble_eq_true rfl)) dX1_point_135 ⟨Nat.le_of_ble_eq_true rfl, Nat.le_of_ble_eq_true rfl⟩) hS hA hP (fun r8 u8 H locs hw8 hP hS => ?_)
      have hw8 : r8.toInt = 0 / 256 * 256 + x6.toInt * 8 + x5.toInt := hw8
      refine xsT_127 hx hb hK hP hD hS (vp_in_iff.mpr (by have h9 : x1.toInt = x1.toInt := rfl; omega)) dX1_point_138 (fun H locs hP hD hS => ?_)
      have hI := xInv_c hI (k := 127) (j := (x1 : Int32).toNatClampNeg) (x := r8) (show 0 ≤ (r8 : Int32).toInt ∧ (r8 : Int32).toInt ≤ 16383 ∧ ((r8 : Int32).toInt % 256 = 255 ∨ ((r8 : Int32).toInt % 8 ≤ 4 ∧ (r8 : Int32).toInt / 8 % 32 ≤ 29)) from by omega)
      have hfc : ∀ k, k ∉ ([118, 127] : List Nat) → (updA (updA c 118 (x1 : Int32).toNatClampNeg s2) 127 (x1 : Int32).toNatClampNeg r8) k = c k := fr_cz hfc (by decide +kernel) (by decide +kernel)
      exact rw_vret (i, q, (updA (updA c 118 (x1 : Int32).toNatClampNeg s2) 127 (x1 : Int32).toNatClampNeg r8), d) hx hb hr hlocks hS (hK.sub (tys' := []) [] rfl) hP hD dX1_point_139 ⟨trivial, hI, fr_w hfi (by decide +kernel), fr_w hfc (by decide +kernel), (show PT (c 118) (c 119) (c 120) (c 121) (c 127) ((updA (updA c 118 (x1 : Int32).toNatClampNeg s2) 127 (x1 : Int32).toNatClampNeg r8) 118) ((updA (updA c 118 (x1 : Int32).toNatClampNeg s2) 127 (x1 : Int32).toNatClampNeg r8) 119) ((updA (updA c 118 (x1 : Int32).toNatClampNeg s2) 127 (x1 : Int32).toNatClampNeg r8) 120) ((updA (updA c 118 (x1 : Int32).toNatClampNeg s2) 127 (x1 : Int32).toNatClampNeg r8) 121) ((updA (updA c 118 (x1 : Int32).toNatClampNeg s2) 127 (x1 : Int32).toNatClampNeg r8) 127) (c 113 s1.toNatClampNeg).toInt (c 114 s1.toNatClampNeg).toInt (c 115 s1.toNatClampNeg).toInt (c 116 s1.toNatClampNeg).toInt s2 from Or.inr (Or.inr (Or.inr ⟨by omega, by show upd (c 118) (x1 : Int32).toNatClampNeg s2 = _; rw [cl_t (show (x1 : Int32).toInt = (c 114 s1.toNatClampNeg).toInt from by omega)], rfl, rfl, rfl, r8, by show upd (c 127) (x1 : Int32).toNatClampNeg r8 = _; rw [cl_t (show (x1 : Int32).toInt = (c 114 s1.toNatClampNeg).toInt from by omega)], Or.inr ⟨by omega, by omega⟩⟩)))⟩
    · have f4 := (ti_eq (a := s2.toInt) (b := (-9)) rfl (by decide +kernel)).mp c4
      refine lv_sipush (v := 255) hx hb dX1_point_116 (by decide +kernel) ?_
      refine lv_goto (tgt := 138) hx hb dX1_point_119 (by decide +kernel) ?_
      refine xsT_127 hx hb hK hP hD hS (vp_in_iff.mpr (by have h9 : x1.toInt = x1.toInt := rfl; omega)) dX1_point_138 (fun H locs hP hD hS => ?_)
      have hI := xInv_c hI (k := 127) (j := (x1 : Int32).toNatClampNeg) (x := 255) (show 0 ≤ (255 : Int32).toInt ∧ (255 : Int32).toInt ≤ 16383 ∧ ((255 : Int32).toInt % 256 = 255 ∨ ((255 : Int32).toInt % 8 ≤ 4 ∧ (255 : Int32).toInt / 8 % 32 ≤ 29)) from by have h9 : (255 : Int32).toInt = 255 := (by decide +kernel); omega)
      have hfc : ∀ k, k ∉ ([118, 127] : List Nat) → (updA (updA c 118 (x1 : Int32).toNatClampNeg s2) 127 (x1 : Int32).toNatClampNeg 255) k = c k := fr_cz hfc (by decide +kernel) (by decide +kernel)
      exact rw_vret (i, q, (updA (updA c 118 (x1 : Int32).toNatClampNeg s2) 127 (x1 : Int32).toNatClampNeg 255), d) hx hb hr hlocks hS (hK.sub (tys' := []) [] rfl) hP hD dX1_point_139 ⟨trivial, hI, fr_w hfi (by decide +kernel), fr_w hfc (by decide +kernel), (show PT (c 118) (c 119) (c 120) (c 121) (c 127) ((updA (updA c 118 (x1 : Int32).toNatClampNeg s2) 127 (x1 : Int32).toNatClampNeg 255) 118) ((updA (updA c 118 (x1 : Int32).toNatClampNeg s2) 127 (x1 : Int32).toNatClampNeg 255) 119) ((updA (updA c 118 (x1 : Int32).toNatClampNeg s2) 127 (x1 : Int32).toNatClampNeg 255) 120) ((updA (updA c 118 (x1 : Int32).toNatClampNeg s2) 127 (x1 : Int32).toNatClampNeg 255) 121) ((updA (updA c 118 (x1 : Int32).toNatClampNeg s2) 127 (x1 : Int32).toNatClampNeg 255) 127) (c 113 s1.toNatClampNeg).toInt (c 114 s1.toNatClampNeg).toInt (c 115 s1.toNatClampNeg).toInt (c 116 s1.toNatClampNeg).toInt s2 from Or.inr (Or.inr (Or.inr ⟨by omega, by show upd (c 118) (x1 : Int32).toNatClampNeg s2 = _; rw [cl_t (show (x1 : Int32).toInt = (c 114 s1.toNatClampNeg).toInt from by omega)], rfl, rfl, rfl, (255 : Int32), by show upd (c 127) (x1 : Int32).toNatClampNeg (255 : Int32) = _; rw [cl_t (show (x1 : Int32).toInt = (c 114 s1.toNatClampNeg).toInt from by omega)], Or.inl ⟨by omega, by decide⟩⟩)))⟩
  · refine lv_tableIn (off := 27) (tgt := 40) hx hb dX1_point_13 (by omega) (by omega) (by rw [f3]; rfl) (by decide +kernel) ?_
    refine lv_aload_n hx hb dX1_point_40 rfl (lv_at hl 1 rfl) ?_
    refine xgT_B_exitBy hx hb hts (fun _ h => List.mem_cons_of_mem _ (List.mem_append_left _ (List.mem_append_right _ h))) hown hK hP (hts (.fieldLink RX1 31 "TalePlay$Book" "exitBy" "[I") (List.mem_cons_of_mem _ (List.mem_append_left _ (List.mem_append_left _ (List.mem_of_getElem? (i := 10) rfl))))) dX1_point_41 ?_
    refine lv_iload_n hx hb dX1_point_44 rfl (lv_at hl 0 rfl) ?_
    refine lv_bipush (v := 10) hx hb dX1_point_45 (by decide +kernel) ?_
    refine lv_imul hx hb dX1_point_47 ?_
    refine lv_topi (fun x9 ex9 => ?_)
    have tx9 := ti_mul (a := x1.toInt) (b := 10) ex9 rfl (by decide +kernel) (by omega) (by omega)
    refine lv_aload_n hx hb dX1_point_48 rfl (lv_at hl 1 rfl) ?_
    refine xgT_B_cs hx hb hts (fun _ h => List.mem_cons_of_mem _ (List.mem_append_left _ (List.mem_append_right _ h))) hown hK hP (hts (.fieldLink RX1 21 "TalePlay$Book" "cs" "[I") (List.mem_cons_of_mem _ (List.mem_append_left _ (List.mem_append_left _ (List.mem_of_getElem? (i := 11) rfl))))) dX1_point_49 ?_
    refine lv_iload_n hx hb dX1_point_52 rfl (lv_at hl 2 rfl) ?_
    refine xlT_116 hx hb hK hP (vp_in_iff.mpr (by have h9 : s1.toInt = s1.toInt := rfl; omega)) dX1_point_53 (fun x10 ex10 => ?_)
    have rx10 : 0 ≤ x10.toInt ∧ x10.toInt ≤ 9 := by rw [ex10]; exact hI.2 116 _
    have gx10 : (c 116 (s1 : Int32).toNatClampNeg).toInt = x10.toInt := (congrArg Int32.toInt ex10).symm
    refine lv_iadd hx hb dX1_point_54 ?_
    refine lv_topi (fun x11 ex11 => ?_)
    have tx11 := ti_add (a := (x1.toInt * 10)) (b := x10.toInt) ex11 tx9 rfl (by omega) (by omega)
    refine lv_iload_n hx hb dX1_point_55 rfl (lv_at hl 3 rfl) ?_
    refine xsT_119 hx hb hK hP hD hS (vp_in_iff.mpr (by have h9 : x11.toInt = ((x1.toInt * 10) + x10.toInt) := tx11; omega)) dX1_point_56 (fun H locs hP hD hS => ?_)
    have hI := xInv_c hI (k := 119) (j := (x11 : Int32).toNatClampNeg) (x := s2) (show (s2 : Int32).toInt = -9 ∨ (0 ≤ (s2 : Int32).toInt ∧ (s2 : Int32).toInt ≤ 199) from by omega)
    have hfc : ∀ k, k ∉ ([119] : List Nat) → (updA c 119 (x11 : Int32).toNatClampNeg s2) k = c k := fr_cz hfc (by decide +kernel) (by decide +kernel)
    refine lv_goto (tgt := 139) hx hb dX1_point_57 (by decide +kernel) ?_
    exact rw_vret (i, q, (updA c 119 (x11 : Int32).toNatClampNeg s2), d) hx hb hr hlocks hS (hK.sub (tys' := []) [] rfl) hP hD dX1_point_139 ⟨trivial, hI, fr_w hfi (by decide +kernel), fr_w hfc (by decide +kernel), (show PT (c 118) (c 119) (c 120) (c 121) (c 127) ((updA c 119 (x11 : Int32).toNatClampNeg s2) 118) ((updA c 119 (x11 : Int32).toNatClampNeg s2) 119) ((updA c 119 (x11 : Int32).toNatClampNeg s2) 120) ((updA c 119 (x11 : Int32).toNatClampNeg s2) 121) ((updA c 119 (x11 : Int32).toNatClampNeg s2) 127) (c 113 s1.toNatClampNeg).toInt (c 114 s1.toNatClampNeg).toInt (c 115 s1.toNatClampNeg).toInt (c 116 s1.toNatClampNeg).toInt s2 from Or.inl ⟨by omega, by show upd (c 119) (x11 : Int32).toNatClampNeg s2 = _; rw [cl_t (show (x11 : Int32).toInt = (c 114 s1.toNatClampNeg).toInt * 10 + (c 116 s1.toNatClampNeg).toInt from by omega)], rfl, rfl, rfl, rfl⟩)⟩
  · refine lv_tableIn (off := 47) (tgt := 60) hx hb dX1_point_13 (by omega) (by omega) (by rw [f3]; rfl) (by decide +kernel) ?_
    refine lv_aload_n hx hb dX1_point_60 rfl (lv_at hl 1 rfl) ?_
    refine xgT_B_flagBy hx hb hts (fun _ h => List.mem_cons_of_mem _ (List.mem_append_left _ (List.mem_append_right _ h))) hown hK hP (hts (.fieldLink RX1 34 "TalePlay$Book" "flagBy" "[I") (List.mem_cons_of_mem _ (List.mem_append_left _ (List.mem_append_left _ (List.mem_of_getElem? (i := 12) rfl))))) dX1_point_61 ?_
    refine lv_iload_n hx hb dX1_point_64 rfl (lv_at hl 0 rfl) ?_
    refine lv_bipush (v := 6) hx hb dX1_point_65 (by decide +kernel) ?_
    refine lv_imul hx hb dX1_point_67 ?_
    refine lv_topi (fun x12 ex12 => ?_)
    have tx12 := ti_mul (a := x1.toInt) (b := 6) ex12 rfl (by decide +kernel) (by omega) (by omega)
    refine lv_aload_n hx hb dX1_point_68 rfl (lv_at hl 1 rfl) ?_
    refine xgT_B_bs hx hb hts (fun _ h => List.mem_cons_of_mem _ (List.mem_append_left _ (List.mem_append_right _ h))) hown hK hP (hts (.fieldLink RX1 18 "TalePlay$Book" "bs" "[I") (List.mem_cons_of_mem _ (List.mem_append_left _ (List.mem_append_left _ (List.mem_of_getElem? (i := 5) rfl))))) dX1_point_69 ?_
    refine lv_iload_n hx hb dX1_point_72 rfl (lv_at hl 2 rfl) ?_
    have hfl9 : (c 115 s1.toNatClampNeg).toInt ≤ 5 := hs_F _ (by omega)
    refine xlT_115 hx hb hK hP (vp_in_iff.mpr (by have h9 : s1.toInt = s1.toInt := rfl; omega)) dX1_point_73 (fun x13 ex13 => ?_)
    have rx13 : 0 ≤ x13.toInt ∧ x13.toInt ≤ 29 := by rw [ex13]; exact hI.2 115 _
    have gx13 : (c 115 (s1 : Int32).toNatClampNeg).toInt = x13.toInt := (congrArg Int32.toInt ex13).symm
    refine lv_iadd hx hb dX1_point_74 ?_
    refine lv_topi (fun x14 ex14 => ?_)
    have tx14 := ti_add (a := (x1.toInt * 6)) (b := x13.toInt) ex14 tx12 rfl (by omega) (by omega)
    refine lv_iload_n hx hb dX1_point_75 rfl (lv_at hl 3 rfl) ?_
    refine xsT_120 hx hb hK hP hD hS (vp_in_iff.mpr (by have h9 : x14.toInt = ((x1.toInt * 6) + x13.toInt) := tx14; omega)) dX1_point_76 (fun H locs hP hD hS => ?_)
    have hI := xInv_c hI (k := 120) (j := (x14 : Int32).toNatClampNeg) (x := s2) (show (s2 : Int32).toInt = -9 ∨ (0 ≤ (s2 : Int32).toInt ∧ (s2 : Int32).toInt ≤ 199) from by omega)
    have hfc : ∀ k, k ∉ ([120] : List Nat) → (updA c 120 (x14 : Int32).toNatClampNeg s2) k = c k := fr_cz hfc (by decide +kernel) (by decide +kernel)
    refine lv_goto (tgt := 139) hx hb dX1_point_77 (by decide +kernel) ?_
    exact rw_vret (i, q, (updA c 120 (x14 : Int32).toNatClampNeg s2), d) hx hb hr hlocks hS (hK.sub (tys' := []) [] rfl) hP hD dX1_point_139 ⟨trivial, hI, fr_w hfi (by decide +kernel), fr_w hfc (by decide +kernel), (show PT (c 118) (c 119) (c 120) (c 121) (c 127) ((updA c 120 (x14 : Int32).toNatClampNeg s2) 118) ((updA c 120 (x14 : Int32).toNatClampNeg s2) 119) ((updA c 120 (x14 : Int32).toNatClampNeg s2) 120) ((updA c 120 (x14 : Int32).toNatClampNeg s2) 121) ((updA c 120 (x14 : Int32).toNatClampNeg s2) 127) (c 113 s1.toNatClampNeg).toInt (c 114 s1.toNatClampNeg).toInt (c 115 s1.toNatClampNeg).toInt (c 116 s1.toNatClampNeg).toInt s2 from Or.inr (Or.inl ⟨by omega, by show upd (c 120) (x14 : Int32).toNatClampNeg s2 = _; rw [cl_t (show (x14 : Int32).toInt = (c 114 s1.toNatClampNeg).toInt * 6 + (c 115 s1.toNatClampNeg).toInt from by omega)], rfl, rfl, rfl, rfl⟩))⟩
  · refine lv_tableIn (off := 67) (tgt := 80) hx hb dX1_point_13 (by omega) (by omega) (by rw [f3]; rfl) (by decide +kernel) ?_
    refine lv_aload_n hx hb dX1_point_80 rfl (lv_at hl 1 rfl) ?_
    refine xgT_B_keyBy hx hb hts (fun _ h => List.mem_cons_of_mem _ (List.mem_append_left _ (List.mem_append_right _ h))) hown hK hP (hts (.fieldLink RX1 37 "TalePlay$Book" "keyBy" "[I") (List.mem_cons_of_mem _ (List.mem_append_left _ (List.mem_append_left _ (List.mem_of_getElem? (i := 13) rfl))))) dX1_point_81 ?_
    refine lv_aload_n hx hb dX1_point_84 rfl (lv_at hl 1 rfl) ?_
    refine xgT_B_bs hx hb hts (fun _ h => List.mem_cons_of_mem _ (List.mem_append_left _ (List.mem_append_right _ h))) hown hK hP (hts (.fieldLink RX1 18 "TalePlay$Book" "bs" "[I") (List.mem_cons_of_mem _ (List.mem_append_left _ (List.mem_append_left _ (List.mem_of_getElem? (i := 5) rfl))))) dX1_point_85 ?_
    refine lv_iload_n hx hb dX1_point_88 rfl (lv_at hl 2 rfl) ?_
    refine xlT_115 hx hb hK hP (vp_in_iff.mpr (by have h9 : s1.toInt = s1.toInt := rfl; omega)) dX1_point_89 (fun x15 ex15 => ?_)
    have rx15 : 0 ≤ x15.toInt ∧ x15.toInt ≤ 29 := by rw [ex15]; exact hI.2 115 _
    have gx15 : (c 115 (s1 : Int32).toNatClampNeg).toInt = x15.toInt := (congrArg Int32.toInt ex15).symm
    refine lv_iload_n hx hb dX1_point_90 rfl (lv_at hl 3 rfl) ?_
    refine xsT_121 hx hb hK hP hD hS (vp_in_iff.mpr (by have h9 : x15.toInt = x15.toInt := rfl; omega)) dX1_point_91 (fun H locs hP hD hS => ?_)
    have hI := xInv_c hI (k := 121) (j := (x15 : Int32).toNatClampNeg) (x := s2) (show (s2 : Int32).toInt = -9 ∨ (0 ≤ (s2 : Int32).toInt ∧ (s2 : Int32).toInt ≤ 199) from by omega)
    have hfc : ∀ k, k ∉ ([121] : List Nat) → (updA c 121 (x15 : Int32).toNatClampNeg s2) k = c k := fr_cz hfc (by decide +kernel) (by decide +kernel)
    refine lv_goto (tgt := 139) hx hb dX1_point_92 (by decide +kernel) ?_
    exact rw_vret (i, q, (updA c 121 (x15 : Int32).toNatClampNeg s2), d) hx hb hr hlocks hS (hK.sub (tys' := []) [] rfl) hP hD dX1_point_139 ⟨trivial, hI, fr_w hfi (by decide +kernel), fr_w hfc (by decide +kernel), (show PT (c 118) (c 119) (c 120) (c 121) (c 127) ((updA c 121 (x15 : Int32).toNatClampNeg s2) 118) ((updA c 121 (x15 : Int32).toNatClampNeg s2) 119) ((updA c 121 (x15 : Int32).toNatClampNeg s2) 120) ((updA c 121 (x15 : Int32).toNatClampNeg s2) 121) ((updA c 121 (x15 : Int32).toNatClampNeg s2) 127) (c 113 s1.toNatClampNeg).toInt (c 114 s1.toNatClampNeg).toInt (c 115 s1.toNatClampNeg).toInt (c 116 s1.toNatClampNeg).toInt s2 from Or.inr (Or.inr (Or.inl ⟨by omega, by show upd (c 121) (x15 : Int32).toNatClampNeg s2 = _; rw [cl_t (show (x15 : Int32).toInt = (c 115 s1.toNatClampNeg).toInt from by omega)], rfl, rfl, rfl, rfl⟩)))⟩

def wm_X1_write_e : List Cond := .code yX1_write cX1_write 6 (some .int) :: ((([.fieldLink RX1 92 "TalePlay$Book" "total" "I", .fieldLink RX1 9 "TalePlay$Book" "forms" "[I", .fieldLink RX1 15 "TalePlay$Book" "as" "[I", .fieldLink RX1 18 "TalePlay$Book" "bs" "[I", .fieldLink RX1 21 "TalePlay$Book" "cs" "[I", .fieldLink RX1 24 "TalePlay$Book" "said" "[Z", .fieldLink RX1 96 "TalePlay$Book" "standing" "I", .methodLink RX1 99 yX1_point, .instanceMethod yX1_point, .selects RX1 yX1_point yX1_point, .initialized RX1, .code yX1_point cX1_point 4 none, .fieldLink RX1 28 "TalePlay$Book" "placeBy" "[I", .fieldLink RX1 52 "TalePlay$Book" "places" "LTalePlay$Scene;", .fieldLink RX1 103 "TalePlay$Scene" "cells" "[I", .methodLink RX1 106 yX6_placed] : List Cond) ++ ([.static yX6_placed, .initialized RX6, .code yX6_placed cX6_placed 3 (some .int), .fieldLink RX1 31 "TalePlay$Book" "exitBy" "[I", .fieldLink RX1 34 "TalePlay$Book" "flagBy" "[I", .fieldLink RX1 37 "TalePlay$Book" "keyBy" "[I"] : List Cond)) ++ wsX10 ++ wsX60)
set_option maxRecDepth 20000 in
theorem gm_X1_write_e_X1_point_e_99 : GoodIn wm_X1_write_e (wsV RX1 99 RX1 yX1_point wm_X1_point_e) := goodIn_w (List.forall_mem_append.mpr ⟨List.forall_mem_cons.mpr ⟨List.mem_cons_of_mem _ (List.mem_append_left _ (List.mem_append_left _ (List.mem_append_left _ (List.mem_of_getElem? (i := 7) rfl)))), List.forall_mem_cons.mpr ⟨List.mem_cons_of_mem _ (List.mem_append_left _ (List.mem_append_left _ (List.mem_append_left _ (List.mem_of_getElem? (i := 8) rfl)))), List.forall_mem_cons.mpr ⟨List.mem_cons_of_mem _ (List.mem_append_left _ (List.mem_append_left _ (List.mem_append_left _ (List.mem_of_getElem? (i := 9) rfl)))), List.forall_mem_cons.mpr ⟨List.mem_cons_of_mem _ (List.mem_append_left _ (List.mem_append_left _ (List.mem_append_left _ (List.mem_of_getElem? (i := 10) rfl)))), (fun _ h => absurd h List.not_mem_nil)⟩⟩⟩⟩, List.forall_mem_cons.mpr ⟨List.mem_cons_of_mem _ (List.mem_append_left _ (List.mem_append_left _ (List.mem_append_left _ (List.mem_of_getElem? (i := 11) rfl)))), List.forall_mem_append.mpr ⟨List.forall_mem_append.mpr ⟨List.forall_mem_cons.mpr ⟨List.mem_cons_of_mem _ (List.mem_append_left _ (List.mem_append_left _ (List.mem_append_left _ (List.mem_of_getElem? (i := 2) rfl)))), List.forall_mem_cons.mpr ⟨List.mem_cons_of_mem _ (List.mem_append_left _ (List.mem_append_left _ (List.mem_append_left _ (List.mem_of_getElem? (i := 1) rfl)))), List.forall_mem_cons.mpr ⟨List.mem_cons_of_mem _ (List.mem_append_left _ (List.mem_append_left _ (List.mem_append_left _ (List.mem_of_getElem? (i := 12) rfl)))), List.forall_mem_cons.mpr ⟨List.mem_cons_of_mem _ (List.mem_append_left _ (List.mem_append_left _ (List.mem_append_left _ (List.mem_of_getElem? (i := 13) rfl)))), List.forall_mem_cons.mpr ⟨List.mem_cons_of_mem _ (List.mem_append_left _ (List.mem_append_left _ (List.mem_append_left _ (List.mem_of_getElem? (i := 14) rfl)))), List.forall_mem_cons.mpr ⟨List.mem_cons_of_mem _ (List.mem_append_left _ (List.mem_append_left _ (List.mem_append_left _ (List.mem_of_getElem? (i := 3) rfl)))), List.forall_mem_cons.mpr ⟨List.mem_cons_of_mem _ (List.mem_append_left _ (List.mem_append_left _ (List.mem_append_left _ (List.mem_of_getElem? (i := 15) rfl)))), List.forall_mem_cons.mpr ⟨List.mem_cons_of_mem _ (List.mem_append_left _ (List.mem_append_left _ (List.mem_append_right _ (List.mem_of_getElem? (i := 0) rfl)))), List.forall_mem_cons.mpr ⟨List.mem_cons_of_mem _ (List.mem_append_left _ (List.mem_append_left _ (List.mem_append_right _ (List.mem_of_getElem? (i := 1) rfl)))), List.forall_mem_cons.mpr ⟨List.mem_cons_of_mem _ (List.mem_append_left _ (List.mem_append_left _ (List.mem_append_right _ (List.mem_of_getElem? (i := 2) rfl)))), List.forall_mem_cons.mpr ⟨List.mem_cons_of_mem _ (List.mem_append_left _ (List.mem_append_left _ (List.mem_append_right _ (List.mem_of_getElem? (i := 3) rfl)))), List.forall_mem_cons.mpr ⟨List.mem_cons_of_mem _ (List.mem_append_left _ (List.mem_append_left _ (List.mem_append_left _ (List.mem_of_getElem? (i := 4) rfl)))), List.forall_mem_cons.mpr ⟨List.mem_cons_of_mem _ (List.mem_append_left _ (List.mem_append_left _ (List.mem_append_right _ (List.mem_of_getElem? (i := 4) rfl)))), List.forall_mem_cons.mpr ⟨List.mem_cons_of_mem _ (List.mem_append_left _ (List.mem_append_left _ (List.mem_append_right _ (List.mem_of_getElem? (i := 5) rfl)))), (fun _ h => absurd h List.not_mem_nil)⟩⟩⟩⟩⟩⟩⟩⟩⟩⟩⟩⟩⟩⟩, (fun _ h => List.mem_cons_of_mem _ (List.mem_append_left _ (List.mem_append_right _ h)))⟩, (fun _ h => List.mem_cons_of_mem _ (List.mem_append_right _ h))⟩⟩⟩) (by decide +kernel)
set_option maxHeartbeats 4000000 in
set_option maxRecDepth 100000 in
theorem x_X1_write_e (l : Launch) (D : va_G) (sz : Nat) (sk : Value) (a : Nat → Nat) (t : Nat → ClassId) (i : Nat → Int32) (q : Int64) (c : Nat → Nat → Int32) (d : Nat → Nat → Int64) (f : Int32) (w1 : Int32) (w2 : Int32) (w3 : Int32) (hI : xInv i c) (hf : 0 ≤ f.toInt ∧ f.toInt ≤ 7) (hw1 : 0 ≤ w1.toInt ∧ w1.toInt ≤ 29) (hw2 : 0 ≤ w2.toInt ∧ w2.toInt ≤ 29) (hfl : f.toInt = 6 → w2.toInt ≤ 5) (hw3 : 0 ≤ w3.toInt ∧ w3.toInt ≤ 9) (hto : (i 124).toInt ≤ 199) (hs_F : xFl (c 113) (c 115)) : Met l yX1_write wm_X1_write_e ({ frames := 2, cells := 0, slots := 0, locals := 45 }) (va_Pc [.ref (a 112), .int f, .int w1, .int w2, .int w3] (yB (a 186) D sz (xwT sk a t i q c d) (xtT t))) (va_Qi (fun (r : Int32) (u : MS) => (r.toInt = (i 124).toInt) ∧ xInv u.1 u.2.2.1 ∧ (∀ k, k ∉ ([124, 125] : List Nat) → u.1 k = i k) ∧ (∀ k, k ∉ ([113, 114, 115, 116, 117, 118, 119, 120, 121, 127] : List Nat) → u.2.2.1 k = c k) ∧ (xFl (u.2.2.1 113) (u.2.2.1 115)) ∧ ((u.2.2.1 113) = upd (c 113) (i 124).toNatClampNeg f) ∧ ((u.2.2.1 114) = upd (c 114) (i 124).toNatClampNeg w1) ∧ ((u.2.2.1 115) = upd (c 115) (i 124).toNatClampNeg w2) ∧ ((u.2.2.1 116) = upd (c 116) (i 124).toNatClampNeg w3) ∧ ((u.2.2.1 117) = upd (c 117) (i 124).toNatClampNeg 1) ∧ ((u.1 124).toInt = (i 124).toInt + 1) ∧ (PT (c 118) (c 119) (c 120) (c 121) (c 127) (u.2.2.1 118) (u.2.2.1 119) (u.2.2.1 120) (u.2.2.1 121) (u.2.2.1 127) f.toInt w1.toInt w2.toInt w3.toInt (i 124))) (oC D (va_A (xwT sk a t i q c d) sz) (fun u : MS => xwT sk a t u.1 u.2.1 u.2.2.1 u.2.2.2) (fun _ => [])) (va_A (xwT sk a t i q c d) sz)) 0 0 (va_A (xwT sk a t i q c d) sz) := by
  refine Met.ofW (cc := cX1_write) (maxL := 6) (ret := (some .int)) (by decide +kernel) rfl ?_
  intro p e s m args below meth cd s₁ B hml hv
  obtain ⟨rfl, ⟨hsz, hP, hK, hD0⟩, hN, hZ, hBW⟩ := hv
  have hx := B.exec
  have hb := B.bytes
  have hr := B.returns
  have hts := atoms_spec (ws := wm_X1_write_e) B.pre
  have hown : s.vm.findClass RX1 = some m.cls := findClass_of_methodNamed B.named
  have hlocks := B.notSynchronized
  subst hsz
  have hD := hD0.self (sz := s.heap.size)
  have hZ := xZ_A hZ hP hBW
  generalize hAe : va_A (xwT sk a t i q c d) s.heap.size = A at hD hZ ⊢
  have hA : ∀ q : Nat, s.heap.size ≤ q → A q := fun q h => by rw [← hAe]; exact Or.inr h
  have hS : va_S A s.heap s.heap [] := va_S.rf
  have hfi : ∀ k, k ∉ ([] : List Nat) → i k = i k := fun _ _ => rfl
  have hfc : ∀ k, k ∉ ([] : List Nat) → c k = c k := fun _ _ => rfl
  have hl := lv_entry ([.ref (a 112), .int f, .int w1, .int w2, .int w3]) (n := 6) (Nat.le_of_ble_eq_true rfl)
  rw [lg_entry_eq]
  generalize (lg_sl ([.ref (a 112), .int f, .int w1, .int w2, .int w3]) ++ List.replicate (6 - (lg_sl ([.ref (a 112), .int f, .int w1, .int w2, .int w3])).length) Slot.unset).toArray = ls at hl ⊢
  have hl : lv_has ls 6 [(0, .ref (a 112)), (1, .int f), (2, .int w1), (3, .int w2), (4, .int w3)] := hl
  refine lv_aload_n hx hb dX1_write_0 rfl (lv_at hl 0 rfl) ?_
  refine lv_dup hx hb dX1_write_1 rfl ?_
  refine xgT_B_total (v := (i 124)) rfl hx hb hts (fun _ h => List.mem_cons_of_mem _ (List.mem_append_left _ (List.mem_append_right _ h))) hown hK hP (hts (.fieldLink RX1 92 "TalePlay$Book" "total" "I") (List.mem_cons_of_mem _ (List.mem_append_left _ (List.mem_append_left _ (List.mem_append_left _ (List.mem_of_getElem? (i := 0) rfl)))))) dX1_write_2 ?_
  have rb124_i : 0 ≤ (i 124).toInt ∧ (i 124).toInt ≤ 200 := hI.1 124
  refine lv_dup_x1 hx hb dX1_write_5 rfl rfl ?_
  refine lv_iconst (v := 1) hx hb dX1_write_6 (by decide +kernel) ?_
  refine lv_iadd hx hb dX1_write_7 ?_
  refine lv_topi (fun x1 ex1 => ?_)
  have tx1 := ti_add (a := (i 124).toInt) (b := 1) ex1 rfl (by decide +kernel) (by omega) (by omega)
  refine xpT_B_total hx hb hts (fun _ h => List.mem_cons_of_mem _ (List.mem_append_left _ (List.mem_append_right _ h))) hown hK hP hD hS (hts (.fieldLink RX1 92 "TalePlay$Book" "total" "I") (List.mem_cons_of_mem _ (List.mem_append_left _ (List.mem_append_left _ (List.mem_append_left _ (List.mem_of_getElem? (i := 0) rfl)))))) rfl rfl dX1_write_8 (fun H locs hP hD hS => ?_)
  have hI := xInv_i hI (k := 124) (v := x1) (show 0 ≤ (x1 : Int32).toInt ∧ (x1 : Int32).toInt ≤ 200 from by have h9 : x1.toInt = ((i 124).toInt + 1) := tx1; omega)
  have hfi : ∀ k, k ∉ ([124] : List Nat) → (upd i 124 x1) k = i k := fr_iz hfi (by decide +kernel) (by decide +kernel)
  refine lv_istore (lv' := [(5, .int (i 124)), (0, .ref (a 112)), (1, .int f), (2, .int w1), (3, .int w2), (4, .int w3)]) hx hb dX1_write_11 hl (by decide +kernel) rfl (fun ls hl => ?_)
  refine lv_aload_n hx hb dX1_write_13 rfl (lv_at hl 1 rfl) ?_
  refine xgT_B_forms hx hb hts (fun _ h => List.mem_cons_of_mem _ (List.mem_append_left _ (List.mem_append_right _ h))) hown hK hP (hts (.fieldLink RX1 9 "TalePlay$Book" "forms" "[I") (List.mem_cons_of_mem _ (List.mem_append_left _ (List.mem_append_left _ (List.mem_append_left _ (List.mem_of_getElem? (i := 1) rfl)))))) dX1_write_14 ?_
  refine lv_iload hx hb dX1_write_17 (lv_at hl 0 rfl) ?_
  refine lv_iload_n hx hb dX1_write_19 rfl (lv_at hl 2 rfl) ?_
  refine xsT_113 hx hb hK hP hD hS (vp_in_iff.mpr (by have h9 : (i 124).toInt = (i 124).toInt := rfl; omega)) dX1_write_20 (fun H locs hP hD hS => ?_)
  have hI := xInv_c hI (k := 113) (j := ((i 124) : Int32).toNatClampNeg) (x := f) (show 0 ≤ (f : Int32).toInt ∧ (f : Int32).toInt ≤ 7 from by omega)
  have hfc : ∀ k, k ∉ ([113] : List Nat) → (updA c 113 ((i 124) : Int32).toNatClampNeg f) k = c k := fr_cz hfc (by decide +kernel) (by decide +kernel)
  refine lv_aload_n hx hb dX1_write_21 rfl (lv_at hl 1 rfl) ?_
  refine xgT_B_as hx hb hts (fun _ h => List.mem_cons_of_mem _ (List.mem_append_left _ (List.mem_append_right _ h))) hown hK hP (hts (.fieldLink RX1 15 "TalePlay$Book" "as" "[I") (List.mem_cons_of_mem _ (List.mem_append_left _ (List.mem_append_left _ (List.mem_append_left _ (List.mem_of_getElem? (i := 2) rfl)))))) dX1_write_22 ?_
  refine lv_iload hx hb dX1_write_25 (lv_at hl 0 rfl) ?_
  refine lv_iload_n hx hb dX1_write_27 rfl (lv_at hl 3 rfl) ?_
  refine xsT_114 hx hb hK hP hD hS (vp_in_iff.mpr (by have h9 : (i 124).toInt = (i 124).toInt := rfl; omega)) dX1_write_28 (fun H locs hP hD hS => ?_)
  have hI := xInv_c hI (k := 114) (j := ((i 124) : Int32).toNatClampNeg) (x := w1) (show 0 ≤ (w1 : Int32).toInt ∧ (w1 : Int32).toInt ≤ 29 from by omega)
  have hfc : ∀ k, k ∉ ([113, 114] : List Nat) → (updA (updA c 113 ((i 124) : Int32).toNatClampNeg f) 114 ((i 124) : Int32).toNatClampNeg w1) k = c k := fr_cz hfc (by decide +kernel) (by decide +kernel)
  refine lv_aload_n hx hb dX1_write_29 rfl (lv_at hl 1 rfl) ?_
  refine xgT_B_bs hx hb hts (fun _ h => List.mem_cons_of_mem _ (List.mem_append_left _ (List.mem_append_right _ h))) hown hK hP (hts (.fieldLink RX1 18 "TalePlay$Book" "bs" "[I") (List.mem_cons_of_mem _ (List.mem_append_left _ (List.mem_append_left _ (List.mem_append_left _ (List.mem_of_getElem? (i := 3) rfl)))))) dX1_write_30 ?_
  refine lv_iload hx hb dX1_write_33 (lv_at hl 0 rfl) ?_
  refine lv_iload_n hx hb dX1_write_35 rfl (lv_at hl 4 rfl) ?_
  refine xsT_115 hx hb hK hP hD hS (vp_in_iff.mpr (by have h9 : (i 124).toInt = (i 124).toInt := rfl; omega)) dX1_write_36 (fun H locs hP hD hS => ?_)
  have hI := xInv_c hI (k := 115) (j := ((i 124) : Int32).toNatClampNeg) (x := w2) (show 0 ≤ (w2 : Int32).toInt ∧ (w2 : Int32).toInt ≤ 29 from by omega)
  have hfc : ∀ k, k ∉ ([113, 114, 115] : List Nat) → (updA (updA (updA c 113 ((i 124) : Int32).toNatClampNeg f) 114 ((i 124) : Int32).toNatClampNeg w1) 115 ((i 124) : Int32).toNatClampNeg w2) k = c k := fr_cz hfc (by decide +kernel) (by decide +kernel)
  refine lv_aload_n hx hb dX1_write_37 rfl (lv_at hl 1 rfl) ?_
  refine xgT_B_cs hx hb hts (fun _ h => List.mem_cons_of_mem _ (List.mem_append_left _ (List.mem_append_right _ h))) hown hK hP (hts (.fieldLink RX1 21 "TalePlay$Book" "cs" "[I") (List.mem_cons_of_mem _ (List.mem_append_left _ (List.mem_append_left _ (List.mem_append_left _ (List.mem_of_getElem? (i := 4) rfl)))))) dX1_write_38 ?_
  refine lv_iload hx hb dX1_write_41 (lv_at hl 0 rfl) ?_
  refine lv_iload hx hb dX1_write_43 (lv_at hl 5 rfl) ?_
  refine xsT_116 hx hb hK hP hD hS (vp_in_iff.mpr (by have h9 : (i 124).toInt = (i 124).toInt := rfl; omega)) dX1_write_45 (fun H locs hP hD hS => ?_)
  have hI := xInv_c hI (k := 116) (j := ((i 124) : Int32).toNatClampNeg) (x := w3) (show 0 ≤ (w3 : Int32).toInt ∧ (w3 : Int32).toInt ≤ 9 from by omega)
  have hfc : ∀ k, k ∉ ([113, 114, 115, 116] : List Nat) → (updA (updA (updA (updA c 113 ((i 124) : Int32).toNatClampNeg f) 114 ((i 124) : Int32).toNatClampNeg w1) 115 ((i 124) : Int32).toNatClampNeg w2) 116 ((i 124) : Int32).toNatClampNeg w3) k = c k := fr_cz hfc (by decide +kernel) (by decide +kernel)
  refine lv_aload_n hx hb dX1_write_46 rfl (lv_at hl 1 rfl) ?_
  refine xgT_B_said hx hb hts (fun _ h => List.mem_cons_of_mem _ (List.mem_append_left _ (List.mem_append_right _ h))) hown hK hP (hts (.fieldLink RX1 24 "TalePlay$Book" "said" "[Z") (List.mem_cons_of_mem _ (List.mem_append_left _ (List.mem_append_left _ (List.mem_append_left _ (List.mem_of_getElem? (i := 5) rfl)))))) dX1_write_47 ?_
  refine lv_iload hx hb dX1_write_50 (lv_at hl 0 rfl) ?_
  refine lv_iconst (v := 1) hx hb dX1_write_52 (by decide +kernel) ?_
  refine xsT_117 hx hb hK hP hD hS (vp_in_iff.mpr (by have h9 : (i 124).toInt = (i 124).toInt := rfl; omega)) (nb_z (show 0 ≤ (1 : Int32).toInt ∧ (1 : Int32).toInt ≤ 1 from by decide +kernel)) dX1_write_53 (fun H locs hP hD hS => ?_)
  have hI := xInv_c hI (k := 117) (j := ((i 124) : Int32).toNatClampNeg) (x := 1) (show 0 ≤ (1 : Int32).toInt ∧ (1 : Int32).toInt ≤ 1 from by decide +kernel)
  have hfc : ∀ k, k ∉ ([113, 114, 115, 116, 117] : List Nat) → (updA (updA (updA (updA (updA c 113 ((i 124) : Int32).toNatClampNeg f) 114 ((i 124) : Int32).toNatClampNeg w1) 115 ((i 124) : Int32).toNatClampNeg w2) 116 ((i 124) : Int32).toNatClampNeg w3) 117 ((i 124) : Int32).toNatClampNeg 1) k = c k := fr_cz hfc (by decide +kernel) (by decide +kernel)
  refine lv_aload_n hx hb dX1_write_54 rfl (lv_at hl 1 rfl) ?_
  refine lv_dup hx hb dX1_write_55 rfl ?_
  refine xgT_B_standing (i := (upd i 124 x1)) (v := (i 125)) rfl hx hb hts (fun _ h => List.mem_cons_of_mem _ (List.mem_append_left _ (List.mem_append_right _ h))) hown hK hP (hts (.fieldLink RX1 96 "TalePlay$Book" "standing" "I") (List.mem_cons_of_mem _ (List.mem_append_left _ (List.mem_append_left _ (List.mem_append_left _ (List.mem_of_getElem? (i := 6) rfl)))))) dX1_write_56 ?_
  refine lv_iconst (v := 1) hx hb dX1_write_59 (by decide +kernel) ?_
  refine lv_iadd hx hb dX1_write_60 ?_
  refine lv_topi (fun x2 ex2 => ?_)
  refine xpT_B_standing hx hb hts (fun _ h => List.mem_cons_of_mem _ (List.mem_append_left _ (List.mem_append_right _ h))) hown hK hP hD hS (hts (.fieldLink RX1 96 "TalePlay$Book" "standing" "I") (List.mem_cons_of_mem _ (List.mem_append_left _ (List.mem_append_left _ (List.mem_append_left _ (List.mem_of_getElem? (i := 6) rfl)))))) rfl rfl dX1_write_61 (fun H locs hP hD hS => ?_)
  have hI := xInv_i hI (k := 125) (v := x2) (show True from trivial)
  have hfi : ∀ k, k ∉ ([124, 125] : List Nat) → (upd (upd i 124 x1) 125 x2) k = i k := fr_iz hfi (by decide +kernel) (by decide +kernel)
  have hs_F : xFl ((updA (updA (updA (updA (updA c 113 ((i 124) : Int32).toNatClampNeg f) 114 ((i 124) : Int32).toNatClampNeg w1) 115 ((i 124) : Int32).toNatClampNeg w2) 116 ((i 124) : Int32).toNatClampNeg w3) 117 ((i 124) : Int32).toNatClampNeg 1) 113) ((updA (updA (updA (updA (updA c 113 ((i 124) : Int32).toNatClampNeg f) 114 ((i 124) : Int32).toNatClampNeg w1) 115 ((i 124) : Int32).toNatClampNeg w2) 116 ((i 124) : Int32).toNatClampNeg w3) 117 ((i 124) : Int32).toNatClampNeg 1) 115) := xFl_w (j := ((i 124) : Int32).toNatClampNeg) (x := f) (y := w2) hs_F (by omega)
  refine lv_aload_n hx hb dX1_write_64 rfl (lv_at hl 1 rfl) ?_
  refine lv_iload hx hb dX1_write_65 (lv_at hl 0 rfl) ?_
  refine lv_iload hx hb dX1_write_67 (lv_at hl 0 rfl) ?_
  refine al_callv (va_runV (As := [.int (i 124), .int (i 124)]) (rest := []) ⟨hx, hb, hml, hown, hts⟩ (x_X1_point_e l D H.size sk a t (upd (upd i 124 x1) 125 x2) q (updA (updA (updA (updA (updA c 113 ((i 124) : Int32).toNatClampNeg f) 114 ((i 124) : Int32).toNatClampNeg w1) 115 ((i 124) : Int32).toNatClampNeg w2) 116 ((i 124) : Int32).toNatClampNeg w3) 117 ((i 124) : Int32).toNatClampNeg 1) d (i 124) (i 124) hI (show 0 ≤ (i 124).toInt ∧ (i 124).toInt ≤ 199 from by have h60 : x1.toInt = ((i 124).toInt + 1) := tx1; omega) (show (i 124).toInt = -9 ∨ (0 ≤ (i 124).toInt ∧ (i 124).toInt ≤ 199) from by have h60 : x1.toInt = ((i 124).toInt + 1) := tx1; omega) hs_F) (cwV 2 hts gm_X1_write_e_X1_point_e_99 rfl rfl rfl (by decide +kernel) ⟨Nat.le_of_ble_eq_true rfl, Nat.le_of_ble_eq_true rfl⟩) (yB_V hN (xZ_k hZ hS hA) (xZ_n hZ hD) hK hP hD (ci := 1) (q0 := 8) rfl rfl) rfl rfl hl.1 rfl (lv_room (Nat.le_of_ble_eq_true rfl)) dX1_write_69 ⟨Nat.le_of_ble_eq_true rfl, Nat.le_of_ble_eq_true rfl⟩) hS hA hP hD (fun u3 H locs hw3 hP hD hS => ?_)
  obtain ⟨i3, q3, c3, d3⟩ := u3
  have hw3 : True ∧ xInv i3 c3 ∧ (∀ k, k ∉ ([] : List Nat) → i3 k = (upd (upd i 124 x1) 125 x2) k) ∧ (∀ k, k ∉ ([118, 119, 120, 121, 127] : List Nat) → c3 k = (updA (updA (updA (updA (updA c 113 ((i 124) : Int32).toNatClampNeg f) 114 ((i 124) : Int32).toNatClampNeg w1) 115 ((i 124) : Int32).toNatClampNeg w2) 116 ((i 124) : Int32).toNatClampNeg w3) 117 ((i 124) : Int32).toNatClampNeg 1) k) ∧ (PT ((updA (updA (updA (updA (updA c 113 ((i 124) : Int32).toNatClampNeg f) 114 ((i 124) : Int32).toNatClampNeg w1) 115 ((i 124) : Int32).toNatClampNeg w2) 116 ((i 124) : Int32).toNatClampNeg w3) 117 ((i 124) : Int32).toNatClampNeg 1) 118) ((updA (updA (updA (updA (updA c 113 ((i 124) : Int32).toNatClampNeg f) 114 ((i 124) : Int32).toNatClampNeg w1) 115 ((i 124) : Int32).toNatClampNeg w2) 116 ((i 124) : Int32).toNatClampNeg w3) 117 ((i 124) : Int32).toNatClampNeg 1) 119) ((updA (updA (updA (updA (updA c 113 ((i 124) : Int32).toNatClampNeg f) 114 ((i 124) : Int32).toNatClampNeg w1) 115 ((i 124) : Int32).toNatClampNeg w2) 116 ((i 124) : Int32).toNatClampNeg w3) 117 ((i 124) : Int32).toNatClampNeg 1) 120) ((updA (updA (updA (updA (updA c 113 ((i 124) : Int32).toNatClampNeg f) 114 ((i 124) : Int32).toNatClampNeg w1) 115 ((i 124) : Int32).toNatClampNeg w2) 116 ((i 124) : Int32).toNatClampNeg w3) 117 ((i 124) : Int32).toNatClampNeg 1) 121) ((updA (updA (updA (updA (updA c 113 ((i 124) : Int32).toNatClampNeg f) 114 ((i 124) : Int32).toNatClampNeg w1) 115 ((i 124) : Int32).toNatClampNeg w2) 116 ((i 124) : Int32).toNatClampNeg w3) 117 ((i 124) : Int32).toNatClampNeg 1) 127) (c3 118) (c3 119) (c3 120) (c3 121) (c3 127) ((updA (updA (updA (updA (updA c 113 ((i 124) : Int32).toNatClampNeg f) 114 ((i 124) : Int32).toNatClampNeg w1) 115 ((i 124) : Int32).toNatClampNeg w2) 116 ((i 124) : Int32).toNatClampNeg w3) 117 ((i 124) : Int32).toNatClampNeg 1) 113 (i 124).toNatClampNeg).toInt ((updA (updA (updA (updA (updA c 113 ((i 124) : Int32).toNatClampNeg f) 114 ((i 124) : Int32).toNatClampNeg w1) 115 ((i 124) : Int32).toNatClampNeg w2) 116 ((i 124) : Int32).toNatClampNeg w3) 117 ((i 124) : Int32).toNatClampNeg 1) 114 (i 124).toNatClampNeg).toInt ((updA (updA (updA (updA (updA c 113 ((i 124) : Int32).toNatClampNeg f) 114 ((i 124) : Int32).toNatClampNeg w1) 115 ((i 124) : Int32).toNatClampNeg w2) 116 ((i 124) : Int32).toNatClampNeg w3) 117 ((i 124) : Int32).toNatClampNeg 1) 115 (i 124).toNatClampNeg).toInt ((updA (updA (updA (updA (updA c 113 ((i 124) : Int32).toNatClampNeg f) 114 ((i 124) : Int32).toNatClampNeg w1) 115 ((i 124) : Int32).toNatClampNeg w2) 116 ((i 124) : Int32).toNatClampNeg w3) 117 ((i 124) : Int32).toNatClampNeg 1) 116 (i 124).toNatClampNeg).toInt (i 124)) := hw3
  obtain ⟨hw3, hI, hei3, hec3, hxp3_0⟩ := hw3
  have hxp3_0 : PT (c 118) (c 119) (c 120) (c 121) (c 127) (c3 118) (c3 119) (c3 120) (c3 121) (c3 127) ((updA (updA (updA (updA (updA c 113 ((i 124) : Int32).toNatClampNeg f) 114 ((i 124) : Int32).toNatClampNeg w1) 115 ((i 124) : Int32).toNatClampNeg w2) 116 ((i 124) : Int32).toNatClampNeg w3) 117 ((i 124) : Int32).toNatClampNeg 1) 113 (i 124).toNatClampNeg).toInt ((updA (updA (updA (updA (updA c 113 ((i 124) : Int32).toNatClampNeg f) 114 ((i 124) : Int32).toNatClampNeg w1) 115 ((i 124) : Int32).toNatClampNeg w2) 116 ((i 124) : Int32).toNatClampNeg w3) 117 ((i 124) : Int32).toNatClampNeg 1) 114 (i 124).toNatClampNeg).toInt ((updA (updA (updA (updA (updA c 113 ((i 124) : Int32).toNatClampNeg f) 114 ((i 124) : Int32).toNatClampNeg w1) 115 ((i 124) : Int32).toNatClampNeg w2) 116 ((i 124) : Int32).toNatClampNeg w3) 117 ((i 124) : Int32).toNatClampNeg 1) 115 (i 124).toNatClampNeg).toInt ((updA (updA (updA (updA (updA c 113 ((i 124) : Int32).toNatClampNeg f) 114 ((i 124) : Int32).toNatClampNeg w1) 115 ((i 124) : Int32).toNatClampNeg w2) 116 ((i 124) : Int32).toNatClampNeg w3) 117 ((i 124) : Int32).toNatClampNeg 1) 116 (i 124).toNatClampNeg).toInt (i 124) := by have h9 := hxp3_0; rw [show (updA (updA (updA (updA (updA c 113 ((i 124) : Int32).toNatClampNeg f) 114 ((i 124) : Int32).toNatClampNeg w1) 115 ((i 124) : Int32).toNatClampNeg w2) 116 ((i 124) : Int32).toNatClampNeg w3) 117 ((i 124) : Int32).toNatClampNeg 1) 118 = c 118 from hfc 118 (by decide +kernel), show (updA (updA (updA (updA (updA c 113 ((i 124) : Int32).toNatClampNeg f) 114 ((i 124) : Int32).toNatClampNeg w1) 115 ((i 124) : Int32).toNatClampNeg w2) 116 ((i 124) : Int32).toNatClampNeg w3) 117 ((i 124) : Int32).toNatClampNeg 1) 119 = c 119 from hfc 119 (by decide +kernel), show (updA (updA (updA (updA (updA c 113 ((i 124) : Int32).toNatClampNeg f) 114 ((i 124) : Int32).toNatClampNeg w1) 115 ((i 124) : Int32).toNatClampNeg w2) 116 ((i 124) : Int32).toNatClampNeg w3) 117 ((i 124) : Int32).toNatClampNeg 1) 120 = c 120 from hfc 120 (by decide +kernel), show (updA (updA (updA (updA (updA c 113 ((i 124) : Int32).toNatClampNeg f) 114 ((i 124) : Int32).toNatClampNeg w1) 115 ((i 124) : Int32).toNatClampNeg w2) 116 ((i 124) : Int32).toNatClampNeg w3) 117 ((i 124) : Int32).toNatClampNeg 1) 121 = c 121 from hfc 121 (by decide +kernel), show (updA (updA (updA (updA (updA c 113 ((i 124) : Int32).toNatClampNeg f) 114 ((i 124) : Int32).toNatClampNeg w1) 115 ((i 124) : Int32).toNatClampNeg w2) 116 ((i 124) : Int32).toNatClampNeg w3) 117 ((i 124) : Int32).toNatClampNeg 1) 127 = c 127 from hfc 127 (by decide +kernel)] at h9; exact h9
  have hfi : ∀ k, k ∉ ([124, 125] : List Nat) → i3 k = i k := fr_z hfi hei3 (by decide +kernel) (by decide +kernel)
  have hfc : ∀ k, k ∉ ([113, 114, 115, 116, 117, 118, 119, 120, 121, 127] : List Nat) → c3 k = c k := fr_z hfc hec3 (by decide +kernel) (by decide +kernel)
  refine lv_iload hx hb dX1_write_72 (lv_at hl 0 rfl) ?_
  exact rw_iret (i3, q3, c3, d3) hx hb hr hlocks hS (hK.sub (tys' := []) [] rfl) hP hD dX1_write_74 ⟨(show (i 124).toInt = (i 124).toInt from by omega), hI, fr_w hfi (by decide +kernel), fr_w hfc (by decide +kernel), (show xFl (c3 113) (c3 115) from by rw [show c3 113 = (updA (updA (updA (updA (updA c 113 ((i 124) : Int32).toNatClampNeg f) 114 ((i 124) : Int32).toNatClampNeg w1) 115 ((i 124) : Int32).toNatClampNeg w2) 116 ((i 124) : Int32).toNatClampNeg w3) 117 ((i 124) : Int32).toNatClampNeg 1) 113 from hec3 113 (by decide +kernel), show c3 115 = (updA (updA (updA (updA (updA c 113 ((i 124) : Int32).toNatClampNeg f) 114 ((i 124) : Int32).toNatClampNeg w1) 115 ((i 124) : Int32).toNatClampNeg w2) 116 ((i 124) : Int32).toNatClampNeg w3) 117 ((i 124) : Int32).toNatClampNeg 1) 115 from hec3 115 (by decide +kernel)]; exact hs_F), (show (c3 113) = upd (c 113) (i 124).toNatClampNeg f from by rw [show c3 113 = (updA (updA (updA (updA (updA c 113 ((i 124) : Int32).toNatClampNeg f) 114 ((i 124) : Int32).toNatClampNeg w1) 115 ((i 124) : Int32).toNatClampNeg w2) 116 ((i 124) : Int32).toNatClampNeg w3) 117 ((i 124) : Int32).toNatClampNeg 1) 113 from hec3 113 (by decide +kernel)]; rfl), (show (c3 114) = upd (c 114) (i 124).toNatClampNeg w1 from by rw [show c3 114 = (updA (updA (updA (updA (updA c 113 ((i 124) : Int32).toNatClampNeg f) 114 ((i 124) : Int32).toNatClampNeg w1) 115 ((i 124) : Int32).toNatClampNeg w2) 116 ((i 124) : Int32).toNatClampNeg w3) 117 ((i 124) : Int32).toNatClampNeg 1) 114 from hec3 114 (by decide +kernel)]; rfl), (show (c3 115) = upd (c 115) (i 124).toNatClampNeg w2 from by rw [show c3 115 = (updA (updA (updA (updA (updA c 113 ((i 124) : Int32).toNatClampNeg f) 114 ((i 124) : Int32).toNatClampNeg w1) 115 ((i 124) : Int32).toNatClampNeg w2) 116 ((i 124) : Int32).toNatClampNeg w3) 117 ((i 124) : Int32).toNatClampNeg 1) 115 from hec3 115 (by decide +kernel)]; rfl), (show (c3 116) = upd (c 116) (i 124).toNatClampNeg w3 from by rw [show c3 116 = (updA (updA (updA (updA (updA c 113 ((i 124) : Int32).toNatClampNeg f) 114 ((i 124) : Int32).toNatClampNeg w1) 115 ((i 124) : Int32).toNatClampNeg w2) 116 ((i 124) : Int32).toNatClampNeg w3) 117 ((i 124) : Int32).toNatClampNeg 1) 116 from hec3 116 (by decide +kernel)]; rfl), (show (c3 117) = upd (c 117) (i 124).toNatClampNeg 1 from by rw [show c3 117 = (updA (updA (updA (updA (updA c 113 ((i 124) : Int32).toNatClampNeg f) 114 ((i 124) : Int32).toNatClampNeg w1) 115 ((i 124) : Int32).toNatClampNeg w2) 116 ((i 124) : Int32).toNatClampNeg w3) 117 ((i 124) : Int32).toNatClampNeg 1) 117 from hec3 117 (by decide +kernel)]; rfl), (show ((i3 124) : Int32).toInt = (i 124).toInt + 1 from by rw [show i3 124 = (upd (upd i 124 x1) 125 x2) 124 from hei3 124 (by decide +kernel)]; show x1.toInt = _; exact tx1), (show PT (c 118) (c 119) (c 120) (c 121) (c 127) (c3 118) (c3 119) (c3 120) (c3 121) (c3 127) f.toInt w1.toInt w2.toInt w3.toInt (i 124) from by have h9 := hxp3_0; rw [show ((updA (updA (updA (updA (updA c 113 ((i 124) : Int32).toNatClampNeg f) 114 ((i 124) : Int32).toNatClampNeg w1) 115 ((i 124) : Int32).toNatClampNeg w2) 116 ((i 124) : Int32).toNatClampNeg w3) 117 ((i 124) : Int32).toNatClampNeg 1) 113 (i 124 : Int32).toNatClampNeg) = f from pk_us, show ((updA (updA (updA (updA (updA c 113 ((i 124) : Int32).toNatClampNeg f) 114 ((i 124) : Int32).toNatClampNeg w1) 115 ((i 124) : Int32).toNatClampNeg w2) 116 ((i 124) : Int32).toNatClampNeg w3) 117 ((i 124) : Int32).toNatClampNeg 1) 114 (i 124 : Int32).toNatClampNeg) = w1 from pk_us, show ((updA (updA (updA (updA (updA c 113 ((i 124) : Int32).toNatClampNeg f) 114 ((i 124) : Int32).toNatClampNeg w1) 115 ((i 124) : Int32).toNatClampNeg w2) 116 ((i 124) : Int32).toNatClampNeg w3) 117 ((i 124) : Int32).toNatClampNeg 1) 115 (i 124 : Int32).toNatClampNeg) = w2 from pk_us, show ((updA (updA (updA (updA (updA c 113 ((i 124) : Int32).toNatClampNeg f) 114 ((i 124) : Int32).toNatClampNeg w1) 115 ((i 124) : Int32).toNatClampNeg w2) 116 ((i 124) : Int32).toNatClampNeg w3) 117 ((i 124) : Int32).toNatClampNeg 1) 116 (i 124 : Int32).toNatClampNeg) = w3 from pk_us] at h9; exact h9)⟩

def wm_X1_strike_e : List Cond := .code yX1_strike cX1_strike 2 none :: ((([.fieldLink RX1 24 "TalePlay$Book" "said" "[Z", .fieldLink RX1 96 "TalePlay$Book" "standing" "I", .methodLink RX1 99 yX1_point, .instanceMethod yX1_point, .selects RX1 yX1_point yX1_point, .initialized RX1, .code yX1_point cX1_point 4 none, .fieldLink RX1 15 "TalePlay$Book" "as" "[I", .fieldLink RX1 9 "TalePlay$Book" "forms" "[I", .fieldLink RX1 28 "TalePlay$Book" "placeBy" "[I", .fieldLink RX1 52 "TalePlay$Book" "places" "LTalePlay$Scene;", .fieldLink RX1 103 "TalePlay$Scene" "cells" "[I", .fieldLink RX1 18 "TalePlay$Book" "bs" "[I", .methodLink RX1 106 yX6_placed, .static yX6_placed, .initialized RX6] : List Cond) ++ ([.code yX6_placed cX6_placed 3 (some .int), .fieldLink RX1 31 "TalePlay$Book" "exitBy" "[I", .fieldLink RX1 21 "TalePlay$Book" "cs" "[I", .fieldLink RX1 34 "TalePlay$Book" "flagBy" "[I", .fieldLink RX1 37 "TalePlay$Book" "keyBy" "[I"] : List Cond)) ++ wsX10 ++ wsX60)
set_option maxRecDepth 20000 in
theorem gm_X1_strike_e_X1_point_e_99 : GoodIn wm_X1_strike_e (wsV RX1 99 RX1 yX1_point wm_X1_point_e) := goodIn_w (List.forall_mem_append.mpr ⟨List.forall_mem_cons.mpr ⟨List.mem_cons_of_mem _ (List.mem_append_left _ (List.mem_append_left _ (List.mem_append_left _ (List.mem_of_getElem? (i := 2) rfl)))), List.forall_mem_cons.mpr ⟨List.mem_cons_of_mem _ (List.mem_append_left _ (List.mem_append_left _ (List.mem_append_left _ (List.mem_of_getElem? (i := 3) rfl)))), List.forall_mem_cons.mpr ⟨List.mem_cons_of_mem _ (List.mem_append_left _ (List.mem_append_left _ (List.mem_append_left _ (List.mem_of_getElem? (i := 4) rfl)))), List.forall_mem_cons.mpr ⟨List.mem_cons_of_mem _ (List.mem_append_left _ (List.mem_append_left _ (List.mem_append_left _ (List.mem_of_getElem? (i := 5) rfl)))), (fun _ h => absurd h List.not_mem_nil)⟩⟩⟩⟩, List.forall_mem_cons.mpr ⟨List.mem_cons_of_mem _ (List.mem_append_left _ (List.mem_append_left _ (List.mem_append_left _ (List.mem_of_getElem? (i := 6) rfl)))), List.forall_mem_append.mpr ⟨List.forall_mem_append.mpr ⟨List.forall_mem_cons.mpr ⟨List.mem_cons_of_mem _ (List.mem_append_left _ (List.mem_append_left _ (List.mem_append_left _ (List.mem_of_getElem? (i := 7) rfl)))), List.forall_mem_cons.mpr ⟨List.mem_cons_of_mem _ (List.mem_append_left _ (List.mem_append_left _ (List.mem_append_left _ (List.mem_of_getElem? (i := 8) rfl)))), List.forall_mem_cons.mpr ⟨List.mem_cons_of_mem _ (List.mem_append_left _ (List.mem_append_left _ (List.mem_append_left _ (List.mem_of_getElem? (i := 9) rfl)))), List.forall_mem_cons.mpr ⟨List.mem_cons_of_mem _ (List.mem_append_left _ (List.mem_append_left _ (List.mem_append_left _ (List.mem_of_getElem? (i := 10) rfl)))), List.forall_mem_cons.mpr ⟨List.mem_cons_of_mem _ (List.mem_append_left _ (List.mem_append_left _ (List.mem_append_left _ (List.mem_of_getElem? (i := 11) rfl)))), List.forall_mem_cons.mpr ⟨List.mem_cons_of_mem _ (List.mem_append_left _ (List.mem_append_left _ (List.mem_append_left _ (List.mem_of_getElem? (i := 12) rfl)))), List.forall_mem_cons.mpr ⟨List.mem_cons_of_mem _ (List.mem_append_left _ (List.mem_append_left _ (List.mem_append_left _ (List.mem_of_getElem? (i := 13) rfl)))), List.forall_mem_cons.mpr ⟨List.mem_cons_of_mem _ (List.mem_append_left _ (List.mem_append_left _ (List.mem_append_left _ (List.mem_of_getElem? (i := 14) rfl)))), List.forall_mem_cons.mpr ⟨List.mem_cons_of_mem _ (List.mem_append_left _ (List.mem_append_left _ (List.mem_append_left _ (List.mem_of_getElem? (i := 15) rfl)))), List.forall_mem_cons.mpr ⟨List.mem_cons_of_mem _ (List.mem_append_left _ (List.mem_append_left _ (List.mem_append_right _ (List.mem_of_getElem? (i := 0) rfl)))), List.forall_mem_cons.mpr ⟨List.mem_cons_of_mem _ (List.mem_append_left _ (List.mem_append_left _ (List.mem_append_right _ (List.mem_of_getElem? (i := 1) rfl)))), List.forall_mem_cons.mpr ⟨List.mem_cons_of_mem _ (List.mem_append_left _ (List.mem_append_left _ (List.mem_append_right _ (List.mem_of_getElem? (i := 2) rfl)))), List.forall_mem_cons.mpr ⟨List.mem_cons_of_mem _ (List.mem_append_left _ (List.mem_append_left _ (List.mem_append_right _ (List.mem_of_getElem? (i := 3) rfl)))), List.forall_mem_cons.mpr ⟨List.mem_cons_of_mem _ (List.mem_append_left _ (List.mem_append_left _ (List.mem_append_right _ (List.mem_of_getElem? (i := 4) rfl)))), (fun _ h => absurd h List.not_mem_nil)⟩⟩⟩⟩⟩⟩⟩⟩⟩⟩⟩⟩⟩⟩, (fun _ h => List.mem_cons_of_mem _ (List.mem_append_left _ (List.mem_append_right _ h)))⟩, (fun _ h => List.mem_cons_of_mem _ (List.mem_append_right _ h))⟩⟩⟩) (by decide +kernel)
set_option maxHeartbeats 4000000 in
set_option maxRecDepth 100000 in
theorem x_X1_strike_e (l : Launch) (D : va_G) (sz : Nat) (sk : Value) (a : Nat → Nat) (t : Nat → ClassId) (i : Nat → Int32) (q : Int64) (c : Nat → Nat → Int32) (d : Nat → Nat → Int64) (s1 : Int32) (hI : xInv i c) (hs1 : 0 ≤ s1.toInt ∧ s1.toInt ≤ 199) (hs_F : xFl (c 113) (c 115)) : Met l yX1_strike wm_X1_strike_e ({ frames := 2, cells := 0, slots := 0, locals := 45 }) (va_Pc [.ref (a 112), .int s1] (yB (a 186) D sz (xwT sk a t i q c d) (xtT t))) (va_Qv (fun (u : MS) => True ∧ xInv u.1 u.2.2.1 ∧ (∀ k, k ∉ ([125] : List Nat) → u.1 k = i k) ∧ (∀ k, k ∉ ([117, 118, 119, 120, 121, 127] : List Nat) → u.2.2.1 k = c k) ∧ ((u.2.2.1 117) = upd (c 117) s1.toNatClampNeg 0) ∧ (PT (c 118) (c 119) (c 120) (c 121) (c 127) (u.2.2.1 118) (u.2.2.1 119) (u.2.2.1 120) (u.2.2.1 121) (u.2.2.1 127) (c 113 s1.toNatClampNeg).toInt (c 114 s1.toNatClampNeg).toInt (c 115 s1.toNatClampNeg).toInt (c 116 s1.toNatClampNeg).toInt (-9))) (oC D (va_A (xwT sk a t i q c d) sz) (fun u : MS => xwT sk a t u.1 u.2.1 u.2.2.1 u.2.2.2) (fun _ => [])) (va_A (xwT sk a t i q c d) sz)) 0 0 (va_A (xwT sk a t i q c d) sz) := by
  refine Met.ofW (cc := cX1_strike) (maxL := 2) (ret := none) (by decide +kernel) rfl ?_
  intro p e s m args below meth cd s₁ B hml hv
  obtain ⟨rfl, ⟨hsz, hP, hK, hD0⟩, hN, hZ, hBW⟩ := hv
  have hx := B.exec
  have hb := B.bytes
  have hr := B.returns
  have hts := atoms_spec (ws := wm_X1_strike_e) B.pre
  have hown : s.vm.findClass RX1 = some m.cls := findClass_of_methodNamed B.named
  have hlocks := B.notSynchronized
  subst hsz
  have hD := hD0.self (sz := s.heap.size)
  have hZ := xZ_A hZ hP hBW
  generalize hAe : va_A (xwT sk a t i q c d) s.heap.size = A at hD hZ ⊢
  have hA : ∀ q : Nat, s.heap.size ≤ q → A q := fun q h => by rw [← hAe]; exact Or.inr h
  have hS : va_S A s.heap s.heap [] := va_S.rf
  have hfi : ∀ k, k ∉ ([] : List Nat) → i k = i k := fun _ _ => rfl
  have hfc : ∀ k, k ∉ ([] : List Nat) → c k = c k := fun _ _ => rfl
  have hl := lv_entry ([.ref (a 112), .int s1]) (n := 2) (Nat.le_of_ble_eq_true rfl)
  rw [lg_entry_eq]
  generalize (lg_sl ([.ref (a 112), .int s1]) ++ List.replicate (2 - (lg_sl ([.ref (a 112), .int s1])).length) Slot.unset).toArray = ls at hl ⊢
  have hl : lv_has ls 2 [(0, .ref (a 112)), (1, .int s1)] := hl
  refine lv_aload_n hx hb dX1_strike_0 rfl (lv_at hl 0 rfl) ?_
  refine xgT_B_said hx hb hts (fun _ h => List.mem_cons_of_mem _ (List.mem_append_left _ (List.mem_append_right _ h))) hown hK hP (hts (.fieldLink RX1 24 "TalePlay$Book" "said" "[Z") (List.mem_cons_of_mem _ (List.mem_append_left _ (List.mem_append_left _ (List.mem_append_left _ (List.mem_of_getElem? (i := 0) rfl)))))) dX1_strike_1 ?_
  refine lv_iload_n hx hb dX1_strike_4 rfl (lv_at hl 1 rfl) ?_
  refine lv_iconst (v := 0) hx hb dX1_strike_5 (by decide +kernel) ?_
  refine xsT_117 hx hb hK hP hD hS (vp_in_iff.mpr (by have h9 : s1.toInt = s1.toInt := rfl; omega)) (nb_z (show 0 ≤ (0 : Int32).toInt ∧ (0 : Int32).toInt ≤ 1 from by decide +kernel)) dX1_strike_6 (fun H locs hP hD hS => ?_)
  have hI := xInv_c hI (k := 117) (j := (s1 : Int32).toNatClampNeg) (x := 0) (show 0 ≤ (0 : Int32).toInt ∧ (0 : Int32).toInt ≤ 1 from by decide +kernel)
  have hfc : ∀ k, k ∉ ([117] : List Nat) → (updA c 117 (s1 : Int32).toNatClampNeg 0) k = c k := fr_cz hfc (by decide +kernel) (by decide +kernel)
  refine lv_aload_n hx hb dX1_strike_7 rfl (lv_at hl 0 rfl) ?_
  refine lv_dup hx hb dX1_strike_8 rfl ?_
  refine xgT_B_standing (v := (i 125)) rfl hx hb hts (fun _ h => List.mem_cons_of_mem _ (List.mem_append_left _ (List.mem_append_right _ h))) hown hK hP (hts (.fieldLink RX1 96 "TalePlay$Book" "standing" "I") (List.mem_cons_of_mem _ (List.mem_append_left _ (List.mem_append_left _ (List.mem_append_left _ (List.mem_of_getElem? (i := 1) rfl)))))) dX1_strike_9 ?_
  refine lv_iconst (v := 1) hx hb dX1_strike_12 (by decide +kernel) ?_
  refine lv_isub hx hb dX1_strike_13 ?_
  refine lv_topi (fun x1 ex1 => ?_)
  refine xpT_B_standing hx hb hts (fun _ h => List.mem_cons_of_mem _ (List.mem_append_left _ (List.mem_append_right _ h))) hown hK hP hD hS (hts (.fieldLink RX1 96 "TalePlay$Book" "standing" "I") (List.mem_cons_of_mem _ (List.mem_append_left _ (List.mem_append_left _ (List.mem_append_left _ (List.mem_of_getElem? (i := 1) rfl)))))) rfl rfl dX1_strike_14 (fun H locs hP hD hS => ?_)
  have hI := xInv_i hI (k := 125) (v := x1) (show True from trivial)
  have hfi : ∀ k, k ∉ ([125] : List Nat) → (upd i 125 x1) k = i k := fr_iz hfi (by decide +kernel) (by decide +kernel)
  refine lv_aload_n hx hb dX1_strike_17 rfl (lv_at hl 0 rfl) ?_
  refine lv_iload_n hx hb dX1_strike_18 rfl (lv_at hl 1 rfl) ?_
  refine lv_bipush (v := (-9)) hx hb dX1_strike_19 (by decide +kernel) ?_
  refine al_callv (va_runV (As := [.int s1, .int (-9)]) (rest := []) ⟨hx, hb, hml, hown, hts⟩ (x_X1_point_e l D H.size sk a t (upd i 125 x1) q (updA c 117 (s1 : Int32).toNatClampNeg 0) d s1 (-9) hI (show 0 ≤ s1.toInt ∧ s1.toInt ≤ 199 from by have h91 : ((-9) : Int32).toInt = -9 := (by decide +kernel); omega) (show (-9) = -9 ∨ (0 ≤ (-9) ∧ (-9) ≤ 199) from by decide +kernel) (by rw [show (updA c 117 (s1 : Int32).toNatClampNeg 0) 113 = c 113 from hfc 113 (by decide +kernel), show (updA c 117 (s1 : Int32).toNatClampNeg 0) 115 = c 115 from hfc 115 (by decide +kernel)]; exact hs_F)) (cwV 2 hts gm_X1_strike_e_X1_point_e_99 rfl rfl rfl (by decide +kernel) ⟨Nat.le_of_ble_eq_true rfl, Nat.le_of_ble_eq_true rfl⟩) (yB_V hN (xZ_k hZ hS hA) (xZ_n hZ hD) hK hP hD (ci := 1) (q0 := 8) rfl rfl) rfl rfl hl.1 rfl (lv_room (Nat.le_of_ble_eq_true rfl)) dX1_strike_21 ⟨Nat.le_of_ble_eq_true rfl, Nat.le_of_ble_eq_true rfl⟩) hS hA hP hD (fun u2 H locs hw2 hP hD hS => ?_)
  obtain ⟨i2, q2, c2, d2⟩ := u2
  have hw2 : True ∧ xInv i2 c2 ∧ (∀ k, k ∉ ([] : List Nat) → i2 k = (upd i 125 x1) k) ∧ (∀ k, k ∉ ([118, 119, 120, 121, 127] : List Nat) → c2 k = (updA c 117 (s1 : Int32).toNatClampNeg 0) k) ∧ (PT ((updA c 117 (s1 : Int32).toNatClampNeg 0) 118) ((updA c 117 (s1 : Int32).toNatClampNeg 0) 119) ((updA c 117 (s1 : Int32).toNatClampNeg 0) 120) ((updA c 117 (s1 : Int32).toNatClampNeg 0) 121) ((updA c 117 (s1 : Int32).toNatClampNeg 0) 127) (c2 118) (c2 119) (c2 120) (c2 121) (c2 127) ((updA c 117 (s1 : Int32).toNatClampNeg 0) 113 s1.toNatClampNeg).toInt ((updA c 117 (s1 : Int32).toNatClampNeg 0) 114 s1.toNatClampNeg).toInt ((updA c 117 (s1 : Int32).toNatClampNeg 0) 115 s1.toNatClampNeg).toInt ((updA c 117 (s1 : Int32).toNatClampNeg 0) 116 s1.toNatClampNeg).toInt (-9 : Int32)) := hw2
  obtain ⟨hw2, hI, hei2, hec2, hxp2_0⟩ := hw2
  have hxp2_0 : PT (c 118) (c 119) (c 120) (c 121) (c 127) (c2 118) (c2 119) (c2 120) (c2 121) (c2 127) (c 113 s1.toNatClampNeg).toInt (c 114 s1.toNatClampNeg).toInt (c 115 s1.toNatClampNeg).toInt (c 116 s1.toNatClampNeg).toInt (-9 : Int32) := by have h9 := hxp2_0; rw [show (updA c 117 (s1 : Int32).toNatClampNeg 0) 113 = c 113 from hfc 113 (by decide +kernel), show (updA c 117 (s1 : Int32).toNatClampNeg 0) 114 = c 114 from hfc 114 (by decide +kernel), show (updA c 117 (s1 : Int32).toNatClampNeg 0) 115 = c 115 from hfc 115 (by decide +kernel), show (updA c 117 (s1 : Int32).toNatClampNeg 0) 116 = c 116 from hfc 116 (by decide +kernel), show (updA c 117 (s1 : Int32).toNatClampNeg 0) 118 = c 118 from hfc 118 (by decide +kernel), show (updA c 117 (s1 : Int32).toNatClampNeg 0) 119 = c 119 from hfc 119 (by decide +kernel), show (updA c 117 (s1 : Int32).toNatClampNeg 0) 120 = c 120 from hfc 120 (by decide +kernel), show (updA c 117 (s1 : Int32).toNatClampNeg 0) 121 = c 121 from hfc 121 (by decide +kernel), show (updA c 117 (s1 : Int32).toNatClampNeg 0) 127 = c 127 from hfc 127 (by decide +kernel)] at h9; exact h9
  have hfi : ∀ k, k ∉ ([125] : List Nat) → i2 k = i k := fr_z hfi hei2 (by decide +kernel) (by decide +kernel)
  have hfc : ∀ k, k ∉ ([117, 118, 119, 120, 121, 127] : List Nat) → c2 k = c k := fr_z hfc hec2 (by decide +kernel) (by decide +kernel)
  exact rw_vret (i2, q2, c2, d2) hx hb hr hlocks hS (hK.sub (tys' := []) [] rfl) hP hD dX1_strike_24 ⟨trivial, hI, fr_w hfi (by decide +kernel), fr_w hfc (by decide +kernel), (show (c2 117) = upd (c 117) s1.toNatClampNeg 0 from by rw [show c2 117 = (updA c 117 (s1 : Int32).toNatClampNeg 0) 117 from hec2 117 (by decide +kernel)]; rfl), (show PT (c 118) (c 119) (c 120) (c 121) (c 127) (c2 118) (c2 119) (c2 120) (c2 121) (c2 127) (c 113 s1.toNatClampNeg).toInt (c 114 s1.toNatClampNeg).toInt (c 115 s1.toNatClampNeg).toInt (c 116 s1.toNatClampNeg).toInt (-9) from hxp2_0)⟩

