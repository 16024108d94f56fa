def wm_X1_isWellFormed_e : List Cond := .code yX1_isWellFormed cX1_isWellFormed 5 (some .boolean) :: (([.fieldLink RX1 43 "TalePlay$Book" "world" "LTalePlay$World;", .methodLink RX1 62 yX10_hasObject, .instanceMethod yX10_hasObject, .selects RX10 yX10_hasObject yX10_hasObject, .initialized RX10, .code yX10_hasObject cX10_hasObject 2 (some .boolean), .fieldLink RX10 37 "TalePlay$World" "objects" "I", .code yX11_isBelow cX11_isBelow 2 (some .boolean), .initialized RX11, .static yX11_isBelow] : List Cond) ++ wsX10 ++ wsX100)
set_option maxRecDepth 20000 in
theorem gm_X1_isWellFormed_e_X10_hasObject_62 : GoodIn wm_X1_isWellFormed_e (wsV RX1 62 RX10 yX10_hasObject wm_X10_hasObject) := goodIn_w (List.forall_mem_append.mpr ⟨List.forall_mem_cons.mpr ⟨List.mem_cons_of_mem _ (List.mem_append_left _ (List.mem_append_left _ (List.mem_of_getElem? (i := 1) rfl))), List.forall_mem_cons.mpr ⟨List.mem_cons_of_mem _ (List.mem_append_left _ (List.mem_append_left _ (List.mem_of_getElem? (i := 2) rfl))), List.forall_mem_cons.mpr ⟨List.mem_cons_of_mem _ (List.mem_append_left _ (List.mem_append_left _ (List.mem_of_getElem? (i := 3) rfl))), List.forall_mem_cons.mpr ⟨List.mem_cons_of_mem _ (List.mem_append_left _ (List.mem_append_left _ (List.mem_of_getElem? (i := 4) rfl))), (fun _ h => absurd h List.not_mem_nil)⟩⟩⟩⟩, List.forall_mem_cons.mpr ⟨List.mem_cons_of_mem _ (List.mem_append_left _ (List.mem_append_left _ (List.mem_of_getElem? (i := 5) rfl))), List.forall_mem_append.mpr ⟨List.forall_mem_cons.mpr ⟨List.mem_cons_of_mem _ (List.mem_append_left _ (List.mem_append_left _ (List.mem_of_getElem? (i := 6) rfl))), (fun _ h => absurd h List.not_mem_nil)⟩, (fun _ h => List.mem_cons_of_mem _ (List.mem_append_right _ h))⟩⟩⟩) (by decide +kernel)
set_option maxRecDepth 20000 in
theorem gm_X1_isWellFormed_e_X11_isBelow_68 : GoodIn wm_X1_isWellFormed_e wm_X11_isBelow := goodIn_w (List.forall_mem_cons.mpr ⟨List.mem_cons_of_mem _ (List.mem_append_left _ (List.mem_append_left _ (List.mem_of_getElem? (i := 7) rfl))), (fun _ h => absurd h List.not_mem_nil)⟩) (by decide +kernel)
set_option maxHeartbeats 4000000 in
set_option maxRecDepth 100000 in
theorem x_X1_isWellFormed_e (l : Launch) (D : va_G) (sz : Nat) (sk : Value) (a : Nat → Nat) (t : Nat → ClassId) (i : Nat → Int32) (q : Int64) (c : Nat → Nat → Int32) (d : Nat → Nat → Int64) (f : Int32) (w1 : Int32) (w2 : Int32) (w3 : Int32) (hI : xInv i c) : Met l yX1_isWellFormed wm_X1_isWellFormed_e ({ frames := 1, cells := 0, slots := 0, locals := 21 }) (va_Pc [.ref (a 112), .int f, .int w1, .int w2, .int w3] (yA (a 186) D sz (xwB sk a t i q c d) (xtB t))) (va_Qi (fun (r : Int32) (_ : Unit) => ((0 ≤ r.toInt ∧ r.toInt ≤ 1) ∧ (Sm r (WF f.toInt w1.toInt w2.toInt w3.toInt (i 111).toInt)))) oA (ro sz)) 0 0 (ro sz) := by
  refine Met.ofW (cc := cX1_isWellFormed) (maxL := 5) (ret := (some .boolean)) (by decide +kernel) rfl ?_
  intro p e s m args below meth cd s₁ B hml hv
  obtain ⟨rfl, ⟨hsz, hP, hK⟩, hN, hZ⟩ := hv
  have hx := B.exec
  have hb := B.bytes
  have hr := B.returns
  have hts := atoms_spec (ws := wm_X1_isWellFormed_e) B.pre
  have hown : s.vm.findClass RX1 = some m.cls := findClass_of_methodNamed B.named
  have hlocks := B.notSynchronized
  subst hsz
  have hA : ∀ q : Nat, s.heap.size ≤ q → ro s.heap.size q := fun _ h => h
  have hS : va_S (ro s.heap.size) s.heap s.heap [] := va_S.rf
  have hl := lv_entry ([.ref (a 112), .int f, .int w1, .int w2, .int w3]) (n := 5) (Nat.le_of_ble_eq_true rfl)
  rw [lg_entry_eq]
  generalize (lg_sl ([.ref (a 112), .int f, .int w1, .int w2, .int w3]) ++ List.replicate (5 - (lg_sl ([.ref (a 112), .int f, .int w1, .int w2, .int w3])).length) Slot.unset).toArray = ls at hl ⊢
  have hl : lv_has ls 5 [(0, .ref (a 112)), (1, .int f), (2, .int w1), (3, .int w2), (4, .int w3)] := hl
  have rb111_i : 0 ≤ (i 111).toInt ∧ (i 111).toInt ≤ 30 := hI.1 111
  refine lv_iload_n hx hb dX1_isWellFormed_0 rfl (lv_at hl 1 rfl) ?_
  refine lv_if_lt (tgt := 21) hx hb dX1_isWellFormed_1 (by decide +kernel) (fun c1 => ?_) (fun c1 => ?_)
  · have f1 := (ti_lt (a := f.toInt) (b := 0) rfl (by decide +kernel)).mp c1
    refine lv_iconst (v := 0) hx hb dX1_isWellFormed_21 (by decide +kernel) ?_
    exact ro_zret hx hb hr hlocks hS rfl dX1_isWellFormed_22 ⟨(show 0 ≤ (0 : Int32).toInt ∧ (0 : Int32).toInt ≤ 1 from by have h9 : (0 : Int32).toInt = 0 := (by decide +kernel); omega), (show Sm (0 : Int32) (WF f.toInt w1.toInt w2.toInt w3.toInt (i 111).toInt) from sm_0 (by unfold WF; omega))⟩
  · have f1 := mt (ti_lt (a := f.toInt) (b := 0) rfl (by decide +kernel)).mpr c1
    refine lv_iload_n hx hb dX1_isWellFormed_4 rfl (lv_at hl 1 rfl) ?_
    refine lv_bipush (v := 7) hx hb dX1_isWellFormed_5 (by decide +kernel) ?_
    refine lv_icmp_gt (tgt := 21) hx hb dX1_isWellFormed_7 (by decide +kernel) (fun c2 => ?_) (fun c2 => ?_)
    · have f2 := (ti_lt (a := 7) (b := f.toInt) (by decide +kernel) rfl).mp c2
      refine lv_iconst (v := 0) hx hb dX1_isWellFormed_21 (by decide +kernel) ?_
      exact ro_zret hx hb hr hlocks hS rfl dX1_isWellFormed_22 ⟨(show 0 ≤ (0 : Int32).toInt ∧ (0 : Int32).toInt ≤ 1 from by have h9 : (0 : Int32).toInt = 0 := (by decide +kernel); omega), (show Sm (0 : Int32) (WF f.toInt w1.toInt w2.toInt w3.toInt (i 111).toInt) from sm_0 (by unfold WF; omega))⟩
    · have f2 := mt (ti_lt (a := 7) (b := f.toInt) (by decide +kernel) rfl).mpr c2
      refine lv_aload_n hx hb dX1_isWellFormed_10 rfl (lv_at hl 0 rfl) ?_
      refine xgB_B_world hx hb hts (fun _ h => List.mem_cons_of_mem _ (List.mem_append_left _ (List.mem_append_right _ h))) hown hK hP (hts (.fieldLink RX1 43 "TalePlay$Book" "world" "LTalePlay$World;") (List.mem_cons_of_mem _ (List.mem_append_left _ (List.mem_append_left _ (List.mem_of_getElem? (i := 0) rfl))))) dX1_isWellFormed_11 ?_
      refine lv_iload_n hx hb dX1_isWellFormed_14 rfl (lv_at hl 2 rfl) ?_
      refine ro_calli (va_runV (As := [.int w1]) (rest := []) ⟨hx, hb, hml, hown, hts⟩ (x_X10_hasObject l D s.heap.size .null a t i q c d w1 hI ) (cwV 1 hts gm_X1_isWellFormed_e_X10_hasObject_62 rfl rfl rfl (by decide +kernel) ⟨Nat.le_of_ble_eq_true rfl, Nat.le_of_ble_eq_true rfl⟩) (yA_V hN (xZ_k hZ hS hA) (xkB_W hK) (xuB_W (sk := sk) hP) (ci := 10) (q0 := 0) rfl rfl) rfl rfl hl.1 rfl (lv_room (Nat.le_of_ble_eq_true rfl)) dX1_isWellFormed_15 ⟨Nat.le_of_ble_eq_true rfl, Nat.le_of_ble_eq_true rfl⟩) hS hA hP (fun r3 u3 H locs hw3 hP hS => ?_)
      have hw3 : r3 = if (0 ≤ w1.toInt ∧ w1.toInt < (i 111).toInt) then 1 else 0 := hw3
      refine lv_if_ne (tgt := 23) hx hb dX1_isWellFormed_18 (by decide +kernel) (fun c4 => ?_) (fun c4 => ?_)
      · have f4 := fl_t hw3 c4
        refine lv_iload_n hx hb dX1_isWellFormed_23 rfl (lv_at hl 1 rfl) ?_
        refine lv_bipush (v := 6) hx hb dX1_isWellFormed_24 (by decide +kernel) ?_
        refine lv_icmp_ne (tgt := 55) hx hb dX1_isWellFormed_26 (by decide +kernel) (fun c5 => ?_) (fun c5 => ?_)
        · have f5 := mt (ti_eq (a := f.toInt) (b := 6) rfl (by decide +kernel)).mpr c5
          refine lv_aload_n hx hb dX1_isWellFormed_55 rfl (lv_at hl 0 rfl) ?_
          refine xgB_B_world hx hb hts (fun _ h => List.mem_cons_of_mem _ (List.mem_append_left _ (List.mem_append_right _ h))) hown hK hP (hts (.fieldLink RX1 43 "TalePlay$Book" "world" "LTalePlay$World;") (List.mem_cons_of_mem _ (List.mem_append_left _ (List.mem_append_left _ (List.mem_of_getElem? (i := 0) rfl))))) dX1_isWellFormed_56 ?_
          refine lv_iload_n hx hb dX1_isWellFormed_59 rfl (lv_at hl 3 rfl) ?_
          refine ro_calli (va_runV (As := [.int w2]) (rest := []) ⟨hx, hb, hml, hown, hts⟩ (x_X10_hasObject l D H.size .null a t i q c d w2 hI ) (cwV 1 hts gm_X1_isWellFormed_e_X10_hasObject_62 rfl rfl rfl (by decide +kernel) ⟨Nat.le_of_ble_eq_true rfl, Nat.le_of_ble_eq_true rfl⟩) (yA_V hN (xZ_k hZ hS hA) (xkB_W hK) (xuB_W (sk := sk) hP) (ci := 10) (q0 := 0) rfl rfl) rfl rfl hl.1 rfl (lv_room (Nat.le_of_ble_eq_true rfl)) dX1_isWellFormed_60 ⟨Nat.le_of_ble_eq_true rfl, Nat.le_of_ble_eq_true rfl⟩) hS hA hP (fun r6 u6 H locs hw6 hP hS => ?_)
          have hw6 : r6 = if (0 ≤ w2.toInt ∧ w2.toInt < (i 111).toInt) then 1 else 0 := hw6
          refine lv_if_eq (tgt := 85) hx hb dX1_isWellFormed_63 (by decide +kernel) (fun c7 => ?_) (fun c7 => ?_)
          · have f7 := fl_f hw6 c7
            refine lv_iconst (v := 0) hx hb dX1_isWellFormed_85 (by decide +kernel) ?_
            exact ro_zret hx hb hr hlocks hS rfl dX1_isWellFormed_86 ⟨(show 0 ≤ (0 : Int32).toInt ∧ (0 : Int32).toInt ≤ 1 from by have h9 : (0 : Int32).toInt = 0 := (by decide +kernel); omega), (show Sm (0 : Int32) (WF f.toInt w1.toInt w2.toInt w3.toInt (i 111).toInt) from sm_0 (by unfold WF; omega))⟩
          · have f7 := fl_t hw6 c7
            refine lv_iload_n hx hb dX1_isWellFormed_66 rfl (lv_at hl 1 rfl) ?_
            refine lv_iconst (v := 5) hx hb dX1_isWellFormed_67 (by decide +kernel) ?_
            refine lv_icmp_ne (tgt := 81) hx hb dX1_isWellFormed_68 (by decide +kernel) (fun c8 => ?_) (fun c8 => ?_)
            · have f8 := mt (ti_eq (a := f.toInt) (b := 5) rfl (by decide +kernel)).mpr c8
              refine lv_iconst (v := 1) hx hb dX1_isWellFormed_81 (by decide +kernel) ?_
              refine lv_goto (tgt := 86) hx hb dX1_isWellFormed_82 (by decide +kernel) ?_
              exact ro_zret hx hb hr hlocks hS rfl dX1_isWellFormed_86 ⟨(show 0 ≤ (1 : Int32).toInt ∧ (1 : Int32).toInt ≤ 1 from by have h9 : (1 : Int32).toInt = 1 := (by decide +kernel); omega), (show Sm (1 : Int32) (WF f.toInt w1.toInt w2.toInt w3.toInt (i 111).toInt) from sm_1 (by unfold WF; omega))⟩
            · have f8 := (ti_eq (a := f.toInt) (b := 5) rfl (by decide +kernel)).mp c8
              refine lv_iload hx hb dX1_isWellFormed_71 (lv_at hl 4 rfl) ?_
              refine lv_bipush (v := 10) hx hb dX1_isWellFormed_73 (by decide +kernel) ?_
              have hNn9 := hN.2.2.1
              have hPc := hP.sub (ws' := []) [] rfl
              have hKc := hK.sub (tys' := []) [] rfl
              refine ro_calli (va_runSN (As := [.int w3, .int 10]) (rest := []) ⟨hx, hb, hml, hown, hts⟩ (c_X11_isBelow l D H.size w3 10 w3.toInt 10 rfl (by decide +kernel)) ⟨va_cnB 2 hts gm_X1_isWellFormed_e_X11_isBelow_68 rfl rfl rfl hNn9 (hts (.initialized RX11) (List.mem_cons_of_mem _ (List.mem_append_left _ (List.mem_append_left _ (List.mem_of_getElem? (i := 8) rfl))))) (by decide +kernel) ⟨Nat.le_of_ble_eq_true rfl, Nat.le_of_ble_eq_true rfl⟩, (hts (.static yX11_isBelow) (List.mem_cons_of_mem _ (List.mem_append_left _ (List.mem_append_left _ (List.mem_of_getElem? (i := 9) rfl))))), trivial⟩ (pA_S hKc hPc) rfl rfl hl.1 rfl (lv_room (Nat.le_of_ble_eq_true rfl)) dX1_isWellFormed_75 ⟨Nat.le_of_ble_eq_true rfl, Nat.le_of_ble_eq_true rfl⟩) hS hA hP (fun r10 u10 H locs hw10 hP hS => ?_)
              have hw10 : r10 = if (0 ≤ w3.toInt ∧ w3.toInt < 10) then 1 else 0 := hw10
              refine lv_if_eq (tgt := 85) hx hb dX1_isWellFormed_78 (by decide +kernel) (fun c11 => ?_) (fun c11 => ?_)
              · have f11 := fl_f hw10 c11
                refine lv_iconst (v := 0) hx hb dX1_isWellFormed_85 (by decide +kernel) ?_
                exact ro_zret hx hb hr hlocks hS rfl dX1_isWellFormed_86 ⟨(show 0 ≤ (0 : Int32).toInt ∧ (0 : Int32).toInt ≤ 1 from by have h9 : (0 : Int32).toInt = 0 := (by decide +kernel); omega), (show Sm (0 : Int32) (WF f.toInt w1.toInt w2.toInt w3.toInt (i 111).toInt) from sm_0 (by unfold WF; omega))⟩
              · have f11 := fl_t hw10 c11
                refine lv_iconst (v := 1) hx hb dX1_isWellFormed_81 (by decide +kernel) ?_
                refine lv_goto (tgt := 86) hx hb dX1_isWellFormed_82 (by decide +kernel) ?_
                exact ro_zret hx hb hr hlocks hS rfl dX1_isWellFormed_86 ⟨(show 0 ≤ (1 : Int32).toInt ∧ (1 : Int32).toInt ≤ 1 from by have h9 : (1 : Int32).toInt = 1 := (by decide +kernel); omega), (show Sm (1 : Int32) (WF f.toInt w1.toInt w2.toInt w3.toInt (i 111).toInt) from sm_1 (by unfold WF; omega))⟩
        · have f5 := (ti_eq (a := f.toInt) (b := 6) rfl (by decide +kernel)).mp c5
          refine lv_iload_n hx hb dX1_isWellFormed_29 rfl (lv_at hl 3 rfl) ?_
          refine lv_bipush (v := 6) hx hb dX1_isWellFormed_30 (by decide +kernel) ?_
          have hNn12 := hN.2.2.1
          have hPc := hP.sub (ws' := []) [] rfl
          have hKc := hK.sub (tys' := []) [] rfl
          refine ro_calli (va_runSN (As := [.int w2, .int 6]) (rest := []) ⟨hx, hb, hml, hown, hts⟩ (c_X11_isBelow l D H.size w2 6 w2.toInt 6 rfl (by decide +kernel)) ⟨va_cnB 2 hts gm_X1_isWellFormed_e_X11_isBelow_68 rfl rfl rfl hNn12 (hts (.initialized RX11) (List.mem_cons_of_mem _ (List.mem_append_left _ (List.mem_append_left _ (List.mem_of_getElem? (i := 8) rfl))))) (by decide +kernel) ⟨Nat.le_of_ble_eq_true rfl, Nat.le_of_ble_eq_true rfl⟩, (hts (.static yX11_isBelow) (List.mem_cons_of_mem _ (List.mem_append_left _ (List.mem_append_left _ (List.mem_of_getElem? (i := 9) rfl))))), trivial⟩ (pA_S hKc hPc) rfl rfl hl.1 rfl (lv_room (Nat.le_of_ble_eq_true rfl)) dX1_isWellFormed_32 ⟨Nat.le_of_ble_eq_true rfl, Nat.le_of_ble_eq_true rfl⟩) hS hA hP (fun r13 u13 H locs hw13 hP hS => ?_)
          have hw13 : r13 = if (0 ≤ w2.toInt ∧ w2.toInt < 6) then 1 else 0 := hw13
          refine lv_if_eq (tgt := 53) hx hb dX1_isWellFormed_35 (by decide +kernel) (fun c14 => ?_) (fun c14 => ?_)
          · have f14 := fl_f hw13 c14
            refine lv_iconst (v := 0) hx hb dX1_isWellFormed_53 (by decide +kernel) ?_
            exact ro_zret hx hb hr hlocks hS rfl dX1_isWellFormed_54 ⟨(show 0 ≤ (0 : Int32).toInt ∧ (0 : Int32).toInt ≤ 1 from by have h9 : (0 : Int32).toInt = 0 := (by decide +kernel); omega), (show Sm (0 : Int32) (WF f.toInt w1.toInt w2.toInt w3.toInt (i 111).toInt) from sm_0 (by unfold WF; omega))⟩
          · have f14 := fl_t hw13 c14
            refine lv_iload hx hb dX1_isWellFormed_38 (lv_at hl 4 rfl) ?_
            refine lv_if_eq (tgt := 49) hx hb dX1_isWellFormed_40 (by decide +kernel) (fun c15 => ?_) (fun c15 => ?_)
            · have f15 := (ti_eq (a := w3.toInt) (b := 0) rfl (by decide +kernel)).mp c15
              refine lv_iconst (v := 1) hx hb dX1_isWellFormed_49 (by decide +kernel) ?_
              refine lv_goto (tgt := 54) hx hb dX1_isWellFormed_50 (by decide +kernel) ?_
              exact ro_zret hx hb hr hlocks hS rfl dX1_isWellFormed_54 ⟨(show 0 ≤ (1 : Int32).toInt ∧ (1 : Int32).toInt ≤ 1 from by have h9 : (1 : Int32).toInt = 1 := (by decide +kernel); omega), (show Sm (1 : Int32) (WF f.toInt w1.toInt w2.toInt w3.toInt (i 111).toInt) from sm_1 (by unfold WF; omega))⟩
            · have f15 := mt (ti_eq (a := w3.toInt) (b := 0) rfl (by decide +kernel)).mpr c15
              refine lv_iload hx hb dX1_isWellFormed_43 (lv_at hl 4 rfl) ?_
              refine lv_iconst (v := 1) hx hb dX1_isWellFormed_45 (by decide +kernel) ?_
              refine lv_icmp_ne (tgt := 53) hx hb dX1_isWellFormed_46 (by decide +kernel) (fun c16 => ?_) (fun c16 => ?_)
              · have f16 := mt (ti_eq (a := w3.toInt) (b := 1) rfl (by decide +kernel)).mpr c16
                refine lv_iconst (v := 0) hx hb dX1_isWellFormed_53 (by decide +kernel) ?_
                exact ro_zret hx hb hr hlocks hS rfl dX1_isWellFormed_54 ⟨(show 0 ≤ (0 : Int32).toInt ∧ (0 : Int32).toInt ≤ 1 from by have h9 : (0 : Int32).toInt = 0 := (by decide +kernel); omega), (show Sm (0 : Int32) (WF f.toInt w1.toInt w2.toInt w3.toInt (i 111).toInt) from sm_0 (by unfold WF; omega))⟩
              · have f16 := (ti_eq (a := w3.toInt) (b := 1) rfl (by decide +kernel)).mp c16
                refine lv_iconst (v := 1) hx hb dX1_isWellFormed_49 (by decide +kernel) ?_
                refine lv_goto (tgt := 54) hx hb dX1_isWellFormed_50 (by decide +kernel) ?_
                exact ro_zret hx hb hr hlocks hS rfl dX1_isWellFormed_54 ⟨(show 0 ≤ (1 : Int32).toInt ∧ (1 : Int32).toInt ≤ 1 from by have h9 : (1 : Int32).toInt = 1 := (by decide +kernel); omega), (show Sm (1 : Int32) (WF f.toInt w1.toInt w2.toInt w3.toInt (i 111).toInt) from sm_1 (by unfold WF; omega))⟩
      · have f4 := fl_f hw3 c4
        refine lv_iconst (v := 0) hx hb dX1_isWellFormed_21 (by decide +kernel) ?_
        exact ro_zret hx hb hr hlocks hS rfl dX1_isWellFormed_22 ⟨(show 0 ≤ (0 : Int32).toInt ∧ (0 : Int32).toInt ≤ 1 from by have h9 : (0 : Int32).toInt = 0 := (by decide +kernel); omega), (show Sm (0 : Int32) (WF f.toInt w1.toInt w2.toInt w3.toInt (i 111).toInt) from sm_0 (by unfold WF; omega))⟩

def wm_X1_isFitting_e : List Cond := .code yX1_isFitting cX1_isFitting 5 (some .boolean) :: ((([.fieldLink RX1 43 "TalePlay$Book" "world" "LTalePlay$World;", .methodLink RX1 72 yX10_sortOf, .instanceMethod yX10_sortOf, .selects RX10 yX10_sortOf yX10_sortOf, .initialized RX10, .code yX10_sortOf cX10_sortOf 2 (some .int), .fieldLink RX10 37 "TalePlay$World" "objects" "I", .fieldLink RX10 15 "TalePlay$World" "sorts" "[I", .fieldLink RX10 21 "TalePlay$World" "kindOf" "[I", .methodLink RX1 79 yX10_isGoods, .instanceMethod yX10_isGoods, .selects RX10 yX10_isGoods yX10_isGoods, .code yX10_isGoods cX10_isGoods 2 (some .boolean), .methodLink RX10 44 yX10_isMovable, .instanceMethod yX10_isMovable, .selects RX10 yX10_isMovable yX10_isMovable] : List Cond) ++ ([.code yX10_isMovable cX10_isMovable 3 (some .boolean), .methodLink RX10 40 yX10_sortOf, .methodLink RX1 85 yX10_isShutter, .instanceMethod yX10_isShutter, .selects RX10 yX10_isShutter yX10_isShutter, .code yX10_isShutter cX10_isShutter 3 (some .boolean), .methodLink RX1 76 yX10_isMovable, .methodLink RX1 82 yX10_canHave, .instanceMethod yX10_canHave, .selects RX10 yX10_canHave yX10_canHave, .code yX10_canHave cX10_canHave 3 (some .boolean), .methodLink RX10 48 yX10_isShutter, .methodLink RX10 51 yX10_isGoods] : List Cond)) ++ wsX10 ++ wsX100)
set_option maxRecDepth 20000 in
theorem gm_X1_isFitting_e_X10_sortOf_e_72 : GoodIn wm_X1_isFitting_e (wsV RX1 72 RX10 yX10_sortOf wm_X10_sortOf_e) := goodIn_w (List.forall_mem_append.mpr ⟨List.forall_mem_cons.mpr ⟨List.mem_cons_of_mem _ (List.mem_append_left _ (List.mem_append_left _ (List.mem_append_left _ (List.mem_of_getElem? (i := 1) rfl)))), List.forall_mem_cons.mpr ⟨List.mem_cons_of_mem _ (List.mem_append_left _ (List.mem_append_left _ (List.mem_append_left _ (List.mem_of_getElem? (i := 2) rfl)))), List.forall_mem_cons.mpr ⟨List.mem_cons_of_mem _ (List.mem_append_left _ (List.mem_append_left _ (List.mem_append_left _ (List.mem_of_getElem? (i := 3) rfl)))), List.forall_mem_cons.mpr ⟨List.mem_cons_of_mem _ (List.mem_append_left _ (List.mem_append_left _ (List.mem_append_left _ (List.mem_of_getElem? (i := 4) rfl)))), (fun _ h => absurd h List.not_mem_nil)⟩⟩⟩⟩, List.forall_mem_cons.mpr ⟨List.mem_cons_of_mem _ (List.mem_append_left _ (List.mem_append_left _ (List.mem_append_left _ (List.mem_of_getElem? (i := 5) rfl)))), List.forall_mem_append.mpr ⟨List.forall_mem_cons.mpr ⟨List.mem_cons_of_mem _ (List.mem_append_left _ (List.mem_append_left _ (List.mem_append_left _ (List.mem_of_getElem? (i := 6) rfl)))), List.forall_mem_cons.mpr ⟨List.mem_cons_of_mem _ (List.mem_append_left _ (List.mem_append_left _ (List.mem_append_left _ (List.mem_of_getElem? (i := 7) rfl)))), List.forall_mem_cons.mpr ⟨List.mem_cons_of_mem _ (List.mem_append_left _ (List.mem_append_left _ (List.mem_append_left _ (List.mem_of_getElem? (i := 8) rfl)))), (fun _ h => absurd h List.not_mem_nil)⟩⟩⟩, (fun _ h => List.mem_cons_of_mem _ (List.mem_append_right _ h))⟩⟩⟩) (by decide +kernel)
set_option maxRecDepth 20000 in
theorem gm_X1_isFitting_e_X10_isGoods_e_79 : GoodIn wm_X1_isFitting_e (wsV RX1 79 RX10 yX10_isGoods wm_X10_isGoods_e) := goodIn_w (List.forall_mem_append.mpr ⟨List.forall_mem_cons.mpr ⟨List.mem_cons_of_mem _ (List.mem_append_left _ (List.mem_append_left _ (List.mem_append_left _ (List.mem_of_getElem? (i := 9) rfl)))), List.forall_mem_cons.mpr ⟨List.mem_cons_of_mem _ (List.mem_append_left _ (List.mem_append_left _ (List.mem_append_left _ (List.mem_of_getElem? (i := 10) rfl)))), List.forall_mem_cons.mpr ⟨List.mem_cons_of_mem _ (List.mem_append_left _ (List.mem_append_left _ (List.mem_append_left _ (List.mem_of_getElem? (i := 11) rfl)))), List.forall_mem_cons.mpr ⟨List.mem_cons_of_mem _ (List.mem_append_left _ (List.mem_append_left _ (List.mem_append_left _ (List.mem_of_getElem? (i := 4) rfl)))), (fun _ h => absurd h List.not_mem_nil)⟩⟩⟩⟩, List.forall_mem_cons.mpr ⟨List.mem_cons_of_mem _ (List.mem_append_left _ (List.mem_append_left _ (List.mem_append_left _ (List.mem_of_getElem? (i := 12) rfl)))), List.forall_mem_append.mpr ⟨List.forall_mem_cons.mpr ⟨List.mem_cons_of_mem _ (List.mem_append_left _ (List.mem_append_left _ (List.mem_append_left _ (List.mem_of_getElem? (i := 13) rfl)))), List.forall_mem_cons.mpr ⟨List.mem_cons_of_mem _ (List.mem_append_left _ (List.mem_append_left _ (List.mem_append_left _ (List.mem_of_getElem? (i := 14) rfl)))), List.forall_mem_cons.mpr ⟨List.mem_cons_of_mem _ (List.mem_append_left _ (List.mem_append_left _ (List.mem_append_left _ (List.mem_of_getElem? (i := 15) rfl)))), List.forall_mem_cons.mpr ⟨List.mem_cons_of_mem _ (List.mem_append_left _ (List.mem_append_left _ (List.mem_append_left _ (List.mem_of_getElem? (i := 4) rfl)))), List.forall_mem_cons.mpr ⟨List.mem_cons_of_mem _ (List.mem_append_left _ (List.mem_append_left _ (List.mem_append_right _ (List.mem_of_getElem? (i := 0) rfl)))), List.forall_mem_cons.mpr ⟨List.mem_cons_of_mem _ (List.mem_append_left _ (List.mem_append_left _ (List.mem_append_right _ (List.mem_of_getElem? (i := 1) rfl)))), List.forall_mem_cons.mpr ⟨List.mem_cons_of_mem _ (List.mem_append_left _ (List.mem_append_left _ (List.mem_append_left _ (List.mem_of_getElem? (i := 2) rfl)))), List.forall_mem_cons.mpr ⟨List.mem_cons_of_mem _ (List.mem_append_left _ (List.mem_append_left _ (List.mem_append_left _ (List.mem_of_getElem? (i := 3) rfl)))), List.forall_mem_cons.mpr ⟨List.mem_cons_of_mem _ (List.mem_append_left _ (List.mem_append_left _ (List.mem_append_left _ (List.mem_of_getElem? (i := 5) rfl)))), List.forall_mem_cons.mpr ⟨List.mem_cons_of_mem _ (List.mem_append_left _ (List.mem_append_left _ (List.mem_append_left _ (List.mem_of_getElem? (i := 6) rfl)))), List.forall_mem_cons.mpr ⟨List.mem_cons_of_mem _ (List.mem_append_left _ (List.mem_append_left _ (List.mem_append_left _ (List.mem_of_getElem? (i := 7) rfl)))), List.forall_mem_cons.mpr ⟨List.mem_cons_of_mem _ (List.mem_append_left _ (List.mem_append_left _ (List.mem_append_left _ (List.mem_of_getElem? (i := 8) rfl)))), (fun _ h => absurd h List.not_mem_nil)⟩⟩⟩⟩⟩⟩⟩⟩⟩⟩⟩⟩, (fun _ h => List.mem_cons_of_mem _ (List.mem_append_right _ h))⟩⟩⟩) (by decide +kernel)
set_option maxRecDepth 20000 in
theorem gm_X1_isFitting_e_X10_isShutter_e_85 : GoodIn wm_X1_isFitting_e (wsV RX1 85 RX10 yX10_isShutter wm_X10_isShutter_e) := goodIn_w (List.forall_mem_append.mpr ⟨List.forall_mem_cons.mpr ⟨List.mem_cons_of_mem _ (List.mem_append_left _ (List.mem_append_left _ (List.mem_append_right _ (List.mem_of_getElem? (i := 2) rfl)))), List.forall_mem_cons.mpr ⟨List.mem_cons_of_mem _ (List.mem_append_left _ (List.mem_append_left _ (List.mem_append_right _ (List.mem_of_getElem? (i := 3) rfl)))), List.forall_mem_cons.mpr ⟨List.mem_cons_of_mem _ (List.mem_append_left _ (List.mem_append_left _ (List.mem_append_right _ (List.mem_of_getElem? (i := 4) rfl)))), List.forall_mem_cons.mpr ⟨List.mem_cons_of_mem _ (List.mem_append_left _ (List.mem_append_left _ (List.mem_append_left _ (List.mem_of_getElem? (i := 4) rfl)))), (fun _ h => absurd h List.not_mem_nil)⟩⟩⟩⟩, List.forall_mem_cons.mpr ⟨List.mem_cons_of_mem _ (List.mem_append_left _ (List.mem_append_left _ (List.mem_append_right _ (List.mem_of_getElem? (i := 5) rfl)))), List.forall_mem_append.mpr ⟨List.forall_mem_cons.mpr ⟨List.mem_cons_of_mem _ (List.mem_append_left _ (List.mem_append_left _ (List.mem_append_right _ (List.mem_of_getElem? (i := 1) rfl)))), List.forall_mem_cons.mpr ⟨List.mem_cons_of_mem _ (List.mem_append_left _ (List.mem_append_left _ (List.mem_append_left _ (List.mem_of_getElem? (i := 2) rfl)))), List.forall_mem_cons.mpr ⟨List.mem_cons_of_mem _ (List.mem_append_left _ (List.mem_append_left _ (List.mem_append_left _ (List.mem_of_getElem? (i := 3) rfl)))), List.forall_mem_cons.mpr ⟨List.mem_cons_of_mem _ (List.mem_append_left _ (List.mem_append_left _ (List.mem_append_left _ (List.mem_of_getElem? (i := 4) rfl)))), List.forall_mem_cons.mpr ⟨List.mem_cons_of_mem _ (List.mem_append_left _ (List.mem_append_left _ (List.mem_append_left _ (List.mem_of_getElem? (i := 5) rfl)))), List.forall_mem_cons.mpr ⟨List.mem_cons_of_mem _ (List.mem_append_left _ (List.mem_append_left _ (List.mem_append_left _ (List.mem_of_getElem? (i := 6) rfl)))), List.forall_mem_cons.mpr ⟨List.mem_cons_of_mem _ (List.mem_append_left _ (List.mem_append_left _ (List.mem_append_left _ (List.mem_of_getElem? (i := 7) rfl)))), List.forall_mem_cons.mpr ⟨List.mem_cons_of_mem _ (List.mem_append_left _ (List.mem_append_left _ (List.mem_append_left _ (List.mem_of_getElem? (i := 8) rfl)))), (fun _ h => absurd h List.not_mem_nil)⟩⟩⟩⟩⟩⟩⟩⟩, (fun _ h => List.mem_cons_of_mem _ (List.mem_append_right _ h))⟩⟩⟩) (by decide +kernel)
set_option maxRecDepth 20000 in
theorem gm_X1_isFitting_e_X10_isMovable_e_76 : GoodIn wm_X1_isFitting_e (wsV RX1 76 RX10 yX10_isMovable wm_X10_isMovable_e) := goodIn_w (List.forall_mem_append.mpr ⟨List.forall_mem_cons.mpr ⟨List.mem_cons_of_mem _ (List.mem_append_left _ (List.mem_append_left _ (List.mem_append_right _ (List.mem_of_getElem? (i := 6) rfl)))), List.forall_mem_cons.mpr ⟨List.mem_cons_of_mem _ (List.mem_append_left _ (List.mem_append_left _ (List.mem_append_left _ (List.mem_of_getElem? (i := 14) rfl)))), List.forall_mem_cons.mpr ⟨List.mem_cons_of_mem _ (List.mem_append_left _ (List.mem_append_left _ (List.mem_append_left _ (List.mem_of_getElem? (i := 15) rfl)))), List.forall_mem_cons.mpr ⟨List.mem_cons_of_mem _ (List.mem_append_left _ (List.mem_append_left _ (List.mem_append_left _ (List.mem_of_getElem? (i := 4) rfl)))), (fun _ h => absurd h List.not_mem_nil)⟩⟩⟩⟩, List.forall_mem_cons.mpr ⟨List.mem_cons_of_mem _ (List.mem_append_left _ (List.mem_append_left _ (List.mem_append_right _ (List.mem_of_getElem? (i := 0) rfl)))), List.forall_mem_append.mpr ⟨List.forall_mem_cons.mpr ⟨List.mem_cons_of_mem _ (List.mem_append_left _ (List.mem_append_left _ (List.mem_append_right _ (List.mem_of_getElem? (i := 1) rfl)))), List.forall_mem_cons.mpr ⟨List.mem_cons_of_mem _ (List.mem_append_left _ (List.mem_append_left _ (List.mem_append_left _ (List.mem_of_getElem? (i := 2) rfl)))), List.forall_mem_cons.mpr ⟨List.mem_cons_of_mem _ (List.mem_append_left _ (List.mem_append_left _ (List.mem_append_left _ (List.mem_of_getElem? (i := 3) rfl)))), List.forall_mem_cons.mpr ⟨List.mem_cons_of_mem _ (List.mem_append_left _ (List.mem_append_left _ (List.mem_append_left _ (List.mem_of_getElem? (i := 4) rfl)))), List.forall_mem_cons.mpr ⟨List.mem_cons_of_mem _ (List.mem_append_left _ (List.mem_append_left _ (List.mem_append_left _ (List.mem_of_getElem? (i := 5) rfl)))), List.forall_mem_cons.mpr ⟨List.mem_cons_of_mem _ (List.mem_append_left _ (List.mem_append_left _ (List.mem_append_left _ (List.mem_of_getElem? (i := 6) rfl)))), List.forall_mem_cons.mpr ⟨List.mem_cons_of_mem _ (List.mem_append_left _ (List.mem_append_left _ (List.mem_append_left _ (List.mem_of_getElem? (i := 7) rfl)))), List.forall_mem_cons.mpr ⟨List.mem_cons_of_mem _ (List.mem_append_left _ (List.mem_append_left _ (List.mem_append_left _ (List.mem_of_getElem? (i := 8) rfl)))), (fun _ h => absurd h List.not_mem_nil)⟩⟩⟩⟩⟩⟩⟩⟩, (fun _ h => List.mem_cons_of_mem _ (List.mem_append_right _ h))⟩⟩⟩) (by decide +kernel)
set_option maxRecDepth 20000 in
theorem gm_X1_isFitting_e_X10_canHave_e_82 : GoodIn wm_X1_isFitting_e (wsV RX1 82 RX10 yX10_canHave wm_X10_canHave_e) := goodIn_w (List.forall_mem_append.mpr ⟨List.forall_mem_cons.mpr ⟨List.mem_cons_of_mem _ (List.mem_append_left _ (List.mem_append_left _ (List.mem_append_right _ (List.mem_of_getElem? (i := 7) rfl)))), List.forall_mem_cons.mpr ⟨List.mem_cons_of_mem _ (List.mem_append_left _ (List.mem_append_left _ (List.mem_append_right _ (List.mem_of_getElem? (i := 8) rfl)))), List.forall_mem_cons.mpr ⟨List.mem_cons_of_mem _ (List.mem_append_left _ (List.mem_append_left _ (List.mem_append_right _ (List.mem_of_getElem? (i := 9) rfl)))), List.forall_mem_cons.mpr ⟨List.mem_cons_of_mem _ (List.mem_append_left _ (List.mem_append_left _ (List.mem_append_left _ (List.mem_of_getElem? (i := 4) rfl)))), (fun _ h => absurd h List.not_mem_nil)⟩⟩⟩⟩, List.forall_mem_cons.mpr ⟨List.mem_cons_of_mem _ (List.mem_append_left _ (List.mem_append_left _ (List.mem_append_right _ (List.mem_of_getElem? (i := 10) rfl)))), List.forall_mem_append.mpr ⟨List.forall_mem_append.mpr ⟨List.forall_mem_cons.mpr ⟨List.mem_cons_of_mem _ (List.mem_append_left _ (List.mem_append_left _ (List.mem_append_right _ (List.mem_of_getElem? (i := 11) rfl)))), List.forall_mem_cons.mpr ⟨List.mem_cons_of_mem _ (List.mem_append_left _ (List.mem_append_left _ (List.mem_append_right _ (List.mem_of_getElem? (i := 3) rfl)))), List.forall_mem_cons.mpr ⟨List.mem_cons_of_mem _ (List.mem_append_left _ (List.mem_append_left _ (List.mem_append_right _ (List.mem_of_getElem? (i := 4) rfl)))), List.forall_mem_cons.mpr ⟨List.mem_cons_of_mem _ (List.mem_append_left _ (List.mem_append_left _ (List.mem_append_left _ (List.mem_of_getElem? (i := 4) rfl)))), List.forall_mem_cons.mpr ⟨List.mem_cons_of_mem _ (List.mem_append_left _ (List.mem_append_left _ (List.mem_append_right _ (List.mem_of_getElem? (i := 5) rfl)))), List.forall_mem_cons.mpr ⟨List.mem_cons_of_mem _ (List.mem_append_left _ (List.mem_append_left _ (List.mem_append_right _ (List.mem_of_getElem? (i := 1) rfl)))), List.forall_mem_cons.mpr ⟨List.mem_cons_of_mem _ (List.mem_append_left _ (List.mem_append_left _ (List.mem_append_left _ (List.mem_of_getElem? (i := 2) rfl)))), List.forall_mem_cons.mpr ⟨List.mem_cons_of_mem _ (List.mem_append_left _ (List.mem_append_left _ (List.mem_append_left _ (List.mem_of_getElem? (i := 3) rfl)))), List.forall_mem_cons.mpr ⟨List.mem_cons_of_mem _ (List.mem_append_left _ (List.mem_append_left _ (List.mem_append_left _ (List.mem_of_getElem? (i := 5) rfl)))), List.forall_mem_cons.mpr ⟨List.mem_cons_of_mem _ (List.mem_append_left _ (List.mem_append_left _ (List.mem_append_left _ (List.mem_of_getElem? (i := 6) rfl)))), List.forall_mem_cons.mpr ⟨List.mem_cons_of_mem _ (List.mem_append_left _ (List.mem_append_left _ (List.mem_append_left _ (List.mem_of_getElem? (i := 7) rfl)))), List.forall_mem_cons.mpr ⟨List.mem_cons_of_mem _ (List.mem_append_left _ (List.mem_append_left _ (List.mem_append_left _ (List.mem_of_getElem? (i := 8) rfl)))), List.forall_mem_cons.mpr ⟨List.mem_cons_of_mem _ (List.mem_append_left _ (List.mem_append_left _ (List.mem_append_left _ (List.mem_of_getElem? (i := 13) rfl)))), List.forall_mem_cons.mpr ⟨List.mem_cons_of_mem _ (List.mem_append_left _ (List.mem_append_left _ (List.mem_append_left _ (List.mem_of_getElem? (i := 14) rfl)))), List.forall_mem_cons.mpr ⟨List.mem_cons_of_mem _ (List.mem_append_left _ (List.mem_append_left _ (List.mem_append_left _ (List.mem_of_getElem? (i := 15) rfl)))), List.forall_mem_cons.mpr ⟨List.mem_cons_of_mem _ (List.mem_append_left _ (List.mem_append_left _ (List.mem_append_right _ (List.mem_of_getElem? (i := 0) rfl)))), (fun _ h => absurd h List.not_mem_nil)⟩⟩⟩⟩⟩⟩⟩⟩⟩⟩⟩⟩⟩⟩⟩⟩, List.forall_mem_cons.mpr ⟨List.mem_cons_of_mem _ (List.mem_append_left _ (List.mem_append_left _ (List.mem_append_right _ (List.mem_of_getElem? (i := 12) rfl)))), List.forall_mem_cons.mpr ⟨List.mem_cons_of_mem _ (List.mem_append_left _ (List.mem_append_left _ (List.mem_append_left _ (List.mem_of_getElem? (i := 10) rfl)))), List.forall_mem_cons.mpr ⟨List.mem_cons_of_mem _ (List.mem_append_left _ (List.mem_append_left _ (List.mem_append_left _ (List.mem_of_getElem? (i := 11) rfl)))), List.forall_mem_cons.mpr ⟨List.mem_cons_of_mem _ (List.mem_append_left _ (List.mem_append_left _ (List.mem_append_left _ (List.mem_of_getElem? (i := 12) rfl)))), (fun _ h => absurd h List.not_mem_nil)⟩⟩⟩⟩⟩, (fun _ h => List.mem_cons_of_mem _ (List.mem_append_right _ h))⟩⟩⟩) (by decide +kernel)
set_option maxHeartbeats 4000000 in
set_option maxRecDepth 100000 in
theorem x_X1_isFitting_e (l : Launch) (D : va_G) (sz : Nat) (sk : Value) (a : Nat → Nat) (t : Nat → ClassId) (i : Nat → Int32) (q : Int64) (c : Nat → Nat → Int32) (d : Nat → Nat → Int64) (f : Int32) (w1 : Int32) (w2 : Int32) (hI : xInv i c) (hf : 0 ≤ f.toInt ∧ f.toInt ≤ 7) (hiw1 : 0 ≤ w1.toInt ∧ w1.toInt < (i 111).toInt) (hb5 : f.toInt = 6 ∨ (0 ≤ w2.toInt ∧ w2.toInt < (i 111).toInt)) (hb6 : ¬ f.toInt = 6 ∨ (0 ≤ w2.toInt ∧ w2.toInt ≤ 5)) : Met l yX1_isFitting wm_X1_isFitting_e ({ frames := 4, cells := 0, slots := 0, locals := 86 }) (va_Pc [.ref (a 112), .int f, .int w1, .int w2] (yA (a 186) D sz (xwB sk a t i q c d) (xtB t))) (va_Qi (fun (r : Int32) (_ : Unit) => ((0 ≤ r.toInt ∧ r.toInt ≤ 1) ∧ (Sm r (Fit f.toInt (c 106 (c 108 w1.toInt.toNat).toNatClampNeg).toInt w2.toInt (c 106 (c 108 w2.toInt.toNat).toNatClampNeg).toInt)))) oA (ro sz)) 0 0 (ro sz) := by
  refine Met.ofW (cc := cX1_isFitting) (maxL := 5) (ret := (some .boolean)) (by decide +kernel) rfl ?_
  intro p e s m args below meth cd s₁ B hml hv
  obtain ⟨rfl, ⟨hsz, hP, hK⟩, hN, hZ⟩ := hv
  have hx := B.exec
  have hb := B.bytes
  have hr := B.returns
  have hts := atoms_spec (ws := wm_X1_isFitting_e) B.pre
  have hown : s.vm.findClass RX1 = some m.cls := findClass_of_methodNamed B.named
  have hlocks := B.notSynchronized
  subst hsz
  have hA : ∀ q : Nat, s.heap.size ≤ q → ro s.heap.size q := fun _ h => h
  have hS : va_S (ro s.heap.size) s.heap s.heap [] := va_S.rf
  have hl := lv_entry ([.ref (a 112), .int f, .int w1, .int w2]) (n := 5) (Nat.le_of_ble_eq_true rfl)
  rw [lg_entry_eq]
  generalize (lg_sl ([.ref (a 112), .int f, .int w1, .int w2]) ++ List.replicate (5 - (lg_sl ([.ref (a 112), .int f, .int w1, .int w2])).length) Slot.unset).toArray = ls at hl ⊢
  have hl : lv_has ls 5 [(0, .ref (a 112)), (1, .int f), (2, .int w1), (3, .int w2)] := hl
  have rb111_i : 0 ≤ (i 111).toInt ∧ (i 111).toInt ≤ 30 := hI.1 111
  refine lv_aload_n hx hb dX1_isFitting_0 rfl (lv_at hl 0 rfl) ?_
  refine xgB_B_world hx hb hts (fun _ h => List.mem_cons_of_mem _ (List.mem_append_left _ (List.mem_append_right _ h))) hown hK hP (hts (.fieldLink RX1 43 "TalePlay$Book" "world" "LTalePlay$World;") (List.mem_cons_of_mem _ (List.mem_append_left _ (List.mem_append_left _ (List.mem_append_left _ (List.mem_of_getElem? (i := 0) rfl)))))) dX1_isFitting_1 ?_
  refine lv_iload_n hx hb dX1_isFitting_4 rfl (lv_at hl 3 rfl) ?_
  refine ro_calli (va_runV (As := [.int w2]) (rest := []) ⟨hx, hb, hml, hown, hts⟩ (x_X10_sortOf_e l D s.heap.size .null a t i q c d w2 hI ) (cwV 1 hts gm_X1_isFitting_e_X10_sortOf_e_72 rfl rfl rfl (by decide +kernel) ⟨Nat.le_of_ble_eq_true rfl, Nat.le_of_ble_eq_true rfl⟩) (yA_V hN (xZ_k hZ hS hA) (xkB_W hK) (xuB_W (sk := sk) hP) (ci := 10) (q0 := 0) rfl rfl) rfl rfl hl.1 rfl (lv_room (Nat.le_of_ble_eq_true rfl)) dX1_isFitting_5 ⟨Nat.le_of_ble_eq_true rfl, Nat.le_of_ble_eq_true rfl⟩) hS hA hP (fun r1 u1 H locs hw1 hP hS => ?_)
  have hw1 : (((r1.toInt = -9 ∧ ¬ (0 ≤ w2.toInt ∧ w2.toInt < (i 111).toInt)) ∨ (0 ≤ r1.toInt ∧ r1.toInt ≤ 5 ∧ 0 ≤ w2.toInt ∧ w2.toInt < (i 111).toInt)) ∧ (SO (c 106) (c 108) (i 111).toInt w2.toInt r1.toInt)) := hw1
  obtain ⟨hw1, hr1_0⟩ := hw1
  have hr1_0 : SO (c 106) (c 108) (i 111).toInt w2.toInt r1.toInt := hr1_0
  have hob : ¬ (0 ≤ w2.toInt ∧ w2.toInt < (i 111).toInt) ∨ r1.toInt = (c 106 (c 108 w2.toInt.toNat).toNatClampNeg).toInt := by rcases hr1_0 with h9 | h9; (· exact Or.inr h9.2.2); (· exact Or.inl h9.1)
  refine lv_istore (lv' := [(4, .int r1), (0, .ref (a 112)), (1, .int f), (2, .int w1), (3, .int w2)]) hx hb dX1_isFitting_8 hl (by decide +kernel) rfl (fun ls hl => ?_)
  refine lv_iload_n hx hb dX1_isFitting_10 rfl (lv_at hl 2 rfl) ?_
  rcases (show (f.toInt < 0 ∨ 6 < f.toInt) ∨ f.toInt = 0 ∨ f.toInt = 1 ∨ f.toInt = 2 ∨ f.toInt = 3 ∨ f.toInt = 4 ∨ f.toInt = 5 ∨ f.toInt = 6 by omega) with f2 | f2 | f2 | f2 | f2 | f2 | f2 | f2
  · refine lv_tableOut (tgt := 198) hx hb dX1_isFitting_11 f2 (by decide +kernel) ?_
    refine lv_aload_n hx hb dX1_isFitting_198 rfl (lv_at hl 1 rfl) ?_
    refine xgB_B_world hx hb hts (fun _ h => List.mem_cons_of_mem _ (List.mem_append_left _ (List.mem_append_right _ h))) hown hK hP (hts (.fieldLink RX1 43 "TalePlay$Book" "world" "LTalePlay$World;") (List.mem_cons_of_mem _ (List.mem_append_left _ (List.mem_append_left _ (List.mem_append_left _ (List.mem_of_getElem? (i := 0) rfl)))))) dX1_isFitting_199 ?_
    refine lv_iload_n hx hb dX1_isFitting_202 rfl (lv_at hl 3 rfl) ?_
    refine ro_calli (va_runV (As := [.int w1]) (rest := []) ⟨hx, hb, hml, hown, hts⟩ (x_X10_isGoods_e l D H.size .null a t i q c d w1 hI (show 0 ≤ w1.toInt ∧ w1.toInt < ((i 111) : Int32).toInt from by omega)) (cwV 1 hts gm_X1_isFitting_e_X10_isGoods_e_79 rfl rfl rfl (by decide +kernel) ⟨Nat.le_of_ble_eq_true rfl, Nat.le_of_ble_eq_true rfl⟩) (yA_V hN (xZ_k hZ hS hA) (xkB_W hK) (xuB_W (sk := sk) hP) (ci := 10) (q0 := 0) rfl rfl) rfl rfl hl.1 rfl (lv_room (Nat.le_of_ble_eq_true rfl)) dX1_isFitting_203 ⟨Nat.le_of_ble_eq_true rfl, Nat.le_of_ble_eq_true rfl⟩) hS hA hP (fun r3 u3 H locs hw3 hP hS => ?_)
    have hw3 : (((r3.toInt = 1 ∧ (((c 106 (c 108 w1.toInt.toNat).toNatClampNeg).toInt = 1 ∨ 3 ≤ (c 106 (c 108 w1.toInt.toNat).toNatClampNeg).toInt) ∧ ¬ (c 106 (c 108 w1.toInt.toNat).toNatClampNeg).toInt = 5)) ∨ (r3.toInt = 0 ∧ ¬ (((c 106 (c 108 w1.toInt.toNat).toNatClampNeg).toInt = 1 ∨ 3 ≤ (c 106 (c 108 w1.toInt.toNat).toNatClampNeg).toInt) ∧ ¬ (c 106 (c 108 w1.toInt.toNat).toNatClampNeg).toInt = 5)))) := hw3
    refine lv_if_eq (tgt := 224) hx hb dX1_isFitting_206 (by decide +kernel) (fun c4 => ?_) (fun c4 => ?_)
    · have f4 := (ti_eq (a := r3.toInt) (b := 0) rfl (by decide +kernel)).mp c4
      refine lv_iconst (v := 0) hx hb dX1_isFitting_224 (by decide +kernel) ?_
      exact ro_zret hx hb hr hlocks hS rfl dX1_isFitting_225 ⟨(show 0 ≤ (0 : Int32).toInt ∧ (0 : Int32).toInt ≤ 1 from by have h9 : (0 : Int32).toInt = 0 := (by decide +kernel); omega), (show Sm (0 : Int32) (Fit f.toInt (c 106 (c 108 w1.toInt.toNat).toNatClampNeg).toInt w2.toInt (c 106 (c 108 w2.toInt.toNat).toNatClampNeg).toInt) from sm_0 (by unfold Fit FtL FtR; omega))⟩
    · have f4 := mt (ti_eq (a := r3.toInt) (b := 0) rfl (by decide +kernel)).mpr c4
      refine lv_aload_n hx hb dX1_isFitting_209 rfl (lv_at hl 1 rfl) ?_
      refine xgB_B_world hx hb hts (fun _ h => List.mem_cons_of_mem _ (List.mem_append_left _ (List.mem_append_right _ h))) hown hK hP (hts (.fieldLink RX1 43 "TalePlay$Book" "world" "LTalePlay$World;") (List.mem_cons_of_mem _ (List.mem_append_left _ (List.mem_append_left _ (List.mem_append_left _ (List.mem_of_getElem? (i := 0) rfl)))))) dX1_isFitting_210 ?_
      refine lv_iload_n hx hb dX1_isFitting_213 rfl (lv_at hl 4 rfl) ?_
      refine ro_calli (va_runV (As := [.int w2]) (rest := []) ⟨hx, hb, hml, hown, hts⟩ (x_X10_isShutter_e l D H.size .null a t i q c d w2 hI (show 0 ≤ w2.toInt ∧ w2.toInt < ((i 111) : Int32).toInt from by omega)) (cwV 1 hts gm_X1_isFitting_e_X10_isShutter_e_85 rfl rfl rfl (by decide +kernel) ⟨Nat.le_of_ble_eq_true rfl, Nat.le_of_ble_eq_true rfl⟩) (yA_V hN (xZ_k hZ hS hA) (xkB_W hK) (xuB_W (sk := sk) hP) (ci := 10) (q0 := 0) rfl rfl) rfl rfl hl.1 rfl (lv_room (Nat.le_of_ble_eq_true rfl)) dX1_isFitting_214 ⟨Nat.le_of_ble_eq_true rfl, Nat.le_of_ble_eq_true rfl⟩) hS hA hP (fun r5 u5 H locs hw5 hP hS => ?_)
      have hw5 : (((r5.toInt = 1 ∧ ((c 106 (c 108 w2.toInt.toNat).toNatClampNeg).toInt = 2 ∨ (c 106 (c 108 w2.toInt.toNat).toNatClampNeg).toInt = 3)) ∨ (r5.toInt = 0 ∧ ¬ ((c 106 (c 108 w2.toInt.toNat).toNatClampNeg).toInt = 2 ∨ (c 106 (c 108 w2.toInt.toNat).toNatClampNeg).toInt = 3)))) := hw5
      refine lv_if_eq (tgt := 224) hx hb dX1_isFitting_217 (by decide +kernel) (fun c6 => ?_) (fun c6 => ?_)
      · have f6 := (ti_eq (a := r5.toInt) (b := 0) rfl (by decide +kernel)).mp c6
        refine lv_iconst (v := 0) hx hb dX1_isFitting_224 (by decide +kernel) ?_
        exact ro_zret hx hb hr hlocks hS rfl dX1_isFitting_225 ⟨(show 0 ≤ (0 : Int32).toInt ∧ (0 : Int32).toInt ≤ 1 from by have h9 : (0 : Int32).toInt = 0 := (by decide +kernel); omega), (show Sm (0 : Int32) (Fit f.toInt (c 106 (c 108 w1.toInt.toNat).toNatClampNeg).toInt w2.toInt (c 106 (c 108 w2.toInt.toNat).toNatClampNeg).toInt) from sm_0 (by unfold Fit FtL FtR; omega))⟩
      · have f6 := mt (ti_eq (a := r5.toInt) (b := 0) rfl (by decide +kernel)).mpr c6
        refine lv_iconst (v := 1) hx hb dX1_isFitting_220 (by decide +kernel) ?_
        refine lv_goto (tgt := 225) hx hb dX1_isFitting_221 (by decide +kernel) ?_
        exact ro_zret hx hb hr hlocks hS rfl dX1_isFitting_225 ⟨(show 0 ≤ (1 : Int32).toInt ∧ (1 : Int32).toInt ≤ 1 from by have h9 : (1 : Int32).toInt = 1 := (by decide +kernel); omega), (show Sm (1 : Int32) (Fit f.toInt (c 106 (c 108 w1.toInt.toNat).toNatClampNeg).toInt w2.toInt (c 106 (c 108 w2.toInt.toNat).toNatClampNeg).toInt) from sm_1 (by unfold Fit FtL FtR; omega))⟩
  · refine lv_tableIn (off := 41) (tgt := 52) hx hb dX1_isFitting_11 (by omega) (by omega) (by rw [f2]; rfl) (by decide +kernel) ?_
    refine lv_aload_n hx hb dX1_isFitting_52 rfl (lv_at hl 1 rfl) ?_
    refine xgB_B_world hx hb hts (fun _ h => List.mem_cons_of_mem _ (List.mem_append_left _ (List.mem_append_right _ h))) hown hK hP (hts (.fieldLink RX1 43 "TalePlay$Book" "world" "LTalePlay$World;") (List.mem_cons_of_mem _ (List.mem_append_left _ (List.mem_append_left _ (List.mem_append_left _ (List.mem_of_getElem? (i := 0) rfl)))))) dX1_isFitting_53 ?_
    refine lv_iload_n hx hb dX1_isFitting_56 rfl (lv_at hl 3 rfl) ?_
    refine ro_calli (va_runV (As := [.int w1]) (rest := []) ⟨hx, hb, hml, hown, hts⟩ (x_X10_isMovable_e l D H.size .null a t i q c d w1 hI (show 0 ≤ w1.toInt ∧ w1.toInt < ((i 111) : Int32).toInt from by omega)) (cwV 1 hts gm_X1_isFitting_e_X10_isMovable_e_76 rfl rfl rfl (by decide +kernel) ⟨Nat.le_of_ble_eq_true rfl, Nat.le_of_ble_eq_true rfl⟩) (yA_V hN (xZ_k hZ hS hA) (xkB_W hK) (xuB_W (sk := sk) hP) (ci := 10) (q0 := 0) rfl rfl) rfl rfl hl.1 rfl (lv_room (Nat.le_of_ble_eq_true rfl)) dX1_isFitting_57 ⟨Nat.le_of_ble_eq_true rfl, Nat.le_of_ble_eq_true rfl⟩) hS hA hP (fun r7 u7 H locs hw7 hP hS => ?_)
    have hw7 : (((r7.toInt = 1 ∧ ((c 106 (c 108 w1.toInt.toNat).toNatClampNeg).toInt = 1 ∨ 3 ≤ (c 106 (c 108 w1.toInt.toNat).toNatClampNeg).toInt)) ∨ (r7.toInt = 0 ∧ ¬ ((c 106 (c 108 w1.toInt.toNat).toNatClampNeg).toInt = 1 ∨ 3 ≤ (c 106 (c 108 w1.toInt.toNat).toNatClampNeg).toInt)))) := hw7
    refine lv_if_eq (tgt := 78) hx hb dX1_isFitting_60 (by decide +kernel) (fun c8 => ?_) (fun c8 => ?_)
    · have f8 := (ti_eq (a := r7.toInt) (b := 0) rfl (by decide +kernel)).mp c8
      refine lv_iconst (v := 0) hx hb dX1_isFitting_78 (by decide +kernel) ?_
      refine lv_goto (tgt := 225) hx hb dX1_isFitting_79 (by decide +kernel) ?_
      exact ro_zret hx hb hr hlocks hS rfl dX1_isFitting_225 ⟨(show 0 ≤ (0 : Int32).toInt ∧ (0 : Int32).toInt ≤ 1 from by have h9 : (0 : Int32).toInt = 0 := (by decide +kernel); omega), (show Sm (0 : Int32) (Fit f.toInt (c 106 (c 108 w1.toInt.toNat).toNatClampNeg).toInt w2.toInt (c 106 (c 108 w2.toInt.toNat).toNatClampNeg).toInt) from sm_0 (by unfold Fit FtL FtR; omega))⟩
    · have f8 := mt (ti_eq (a := r7.toInt) (b := 0) rfl (by decide +kernel)).mpr c8
      refine lv_iload hx hb dX1_isFitting_63 (lv_at hl 0 rfl) ?_
      refine lv_if_eq (tgt := 74) hx hb dX1_isFitting_65 (by decide +kernel) (fun c9 => ?_) (fun c9 => ?_)
      · have f9 := (ti_eq (a := r1.toInt) (b := 0) rfl (by decide +kernel)).mp c9
        refine lv_iconst (v := 1) hx hb dX1_isFitting_74 (by decide +kernel) ?_
        refine lv_goto (tgt := 225) hx hb dX1_isFitting_75 (by decide +kernel) ?_
        exact ro_zret hx hb hr hlocks hS rfl dX1_isFitting_225 ⟨(show 0 ≤ (1 : Int32).toInt ∧ (1 : Int32).toInt ≤ 1 from by have h9 : (1 : Int32).toInt = 1 := (by decide +kernel); omega), (show Sm (1 : Int32) (Fit f.toInt (c 106 (c 108 w1.toInt.toNat).toNatClampNeg).toInt w2.toInt (c 106 (c 108 w2.toInt.toNat).toNatClampNeg).toInt) from sm_1 (by unfold Fit FtL FtR; omega))⟩
      · have f9 := mt (ti_eq (a := r1.toInt) (b := 0) rfl (by decide +kernel)).mpr c9
        refine lv_iload hx hb dX1_isFitting_68 (lv_at hl 0 rfl) ?_
        refine lv_iconst (v := 3) hx hb dX1_isFitting_70 (by decide +kernel) ?_
        refine lv_icmp_ne (tgt := 78) hx hb dX1_isFitting_71 (by decide +kernel) (fun c10 => ?_) (fun c10 => ?_)
        · have f10 := mt (ti_eq (a := r1.toInt) (b := 3) rfl (by decide +kernel)).mpr c10
          refine lv_iconst (v := 0) hx hb dX1_isFitting_78 (by decide +kernel) ?_
          refine lv_goto (tgt := 225) hx hb dX1_isFitting_79 (by decide +kernel) ?_
          exact ro_zret hx hb hr hlocks hS rfl dX1_isFitting_225 ⟨(show 0 ≤ (0 : Int32).toInt ∧ (0 : Int32).toInt ≤ 1 from by have h9 : (0 : Int32).toInt = 0 := (by decide +kernel); omega), (show Sm (0 : Int32) (Fit f.toInt (c 106 (c 108 w1.toInt.toNat).toNatClampNeg).toInt w2.toInt (c 106 (c 108 w2.toInt.toNat).toNatClampNeg).toInt) from sm_0 (by unfold Fit FtL FtR; omega))⟩
        · have f10 := (ti_eq (a := r1.toInt) (b := 3) rfl (by decide +kernel)).mp c10
          refine lv_iconst (v := 1) hx hb dX1_isFitting_74 (by decide +kernel) ?_
          refine lv_goto (tgt := 225) hx hb dX1_isFitting_75 (by decide +kernel) ?_
          exact ro_zret hx hb hr hlocks hS rfl dX1_isFitting_225 ⟨(show 0 ≤ (1 : Int32).toInt ∧ (1 : Int32).toInt ≤ 1 from by have h9 : (1 : Int32).toInt = 1 := (by decide +kernel); omega), (show Sm (1 : Int32) (Fit f.toInt (c 106 (c 108 w1.toInt.toNat).toNatClampNeg).toInt w2.toInt (c 106 (c 108 w2.toInt.toNat).toNatClampNeg).toInt) from sm_1 (by unfold Fit FtL FtR; omega))⟩
  · refine lv_tableIn (off := 71) (tgt := 82) hx hb dX1_isFitting_11 (by omega) (by omega) (by rw [f2]; rfl) (by decide +kernel) ?_
    refine lv_aload_n hx hb dX1_isFitting_82 rfl (lv_at hl 1 rfl) ?_
    refine xgB_B_world hx hb hts (fun _ h => List.mem_cons_of_mem _ (List.mem_append_left _ (List.mem_append_right _ h))) hown hK hP (hts (.fieldLink RX1 43 "TalePlay$Book" "world" "LTalePlay$World;") (List.mem_cons_of_mem _ (List.mem_append_left _ (List.mem_append_left _ (List.mem_append_left _ (List.mem_of_getElem? (i := 0) rfl)))))) dX1_isFitting_83 ?_
    refine lv_iload_n hx hb dX1_isFitting_86 rfl (lv_at hl 3 rfl) ?_
    refine ro_calli (va_runV (As := [.int w1]) (rest := []) ⟨hx, hb, hml, hown, hts⟩ (x_X10_isMovable_e l D H.size .null a t i q c d w1 hI (show 0 ≤ w1.toInt ∧ w1.toInt < ((i 111) : Int32).toInt from by omega)) (cwV 1 hts gm_X1_isFitting_e_X10_isMovable_e_76 rfl rfl rfl (by decide +kernel) ⟨Nat.le_of_ble_eq_true rfl, Nat.le_of_ble_eq_true rfl⟩) (yA_V hN (xZ_k hZ hS hA) (xkB_W hK) (xuB_W (sk := sk) hP) (ci := 10) (q0 := 0) rfl rfl) rfl rfl hl.1 rfl (lv_room (Nat.le_of_ble_eq_true rfl)) dX1_isFitting_87 ⟨Nat.le_of_ble_eq_true rfl, Nat.le_of_ble_eq_true rfl⟩) hS hA hP (fun r11 u11 H locs hw11 hP hS => ?_)
    have hw11 : (((r11.toInt = 1 ∧ ((c 106 (c 108 w1.toInt.toNat).toNatClampNeg).toInt = 1 ∨ 3 ≤ (c 106 (c 108 w1.toInt.toNat).toNatClampNeg).toInt)) ∨ (r11.toInt = 0 ∧ ¬ ((c 106 (c 108 w1.toInt.toNat).toNatClampNeg).toInt = 1 ∨ 3 ≤ (c 106 (c 108 w1.toInt.toNat).toNatClampNeg).toInt)))) := hw11
    refine lv_if_eq (tgt := 103) hx hb dX1_isFitting_90 (by decide +kernel) (fun c12 => ?_) (fun c12 => ?_)
    · have f12 := (ti_eq (a := r11.toInt) (b := 0) rfl (by decide +kernel)).mp c12
      refine lv_iconst (v := 0) hx hb dX1_isFitting_103 (by decide +kernel) ?_
      refine lv_goto (tgt := 225) hx hb dX1_isFitting_104 (by decide +kernel) ?_
      exact ro_zret hx hb hr hlocks hS rfl dX1_isFitting_225 ⟨(show 0 ≤ (0 : Int32).toInt ∧ (0 : Int32).toInt ≤ 1 from by have h9 : (0 : Int32).toInt = 0 := (by decide +kernel); omega), (show Sm (0 : Int32) (Fit f.toInt (c 106 (c 108 w1.toInt.toNat).toNatClampNeg).toInt w2.toInt (c 106 (c 108 w2.toInt.toNat).toNatClampNeg).toInt) from sm_0 (by unfold Fit FtL FtR; omega))⟩
    · have f12 := mt (ti_eq (a := r11.toInt) (b := 0) rfl (by decide +kernel)).mpr c12
      refine lv_iload hx hb dX1_isFitting_93 (lv_at hl 0 rfl) ?_
      refine lv_iconst (v := 4) hx hb dX1_isFitting_95 (by decide +kernel) ?_
      refine lv_icmp_ne (tgt := 103) hx hb dX1_isFitting_96 (by decide +kernel) (fun c13 => ?_) (fun c13 => ?_)
      · have f13 := mt (ti_eq (a := r1.toInt) (b := 4) rfl (by decide +kernel)).mpr c13
        refine lv_iconst (v := 0) hx hb dX1_isFitting_103 (by decide +kernel) ?_
        refine lv_goto (tgt := 225) hx hb dX1_isFitting_104 (by decide +kernel) ?_
        exact ro_zret hx hb hr hlocks hS rfl dX1_isFitting_225 ⟨(show 0 ≤ (0 : Int32).toInt ∧ (0 : Int32).toInt ≤ 1 from by have h9 : (0 : Int32).toInt = 0 := (by decide +kernel); omega), (show Sm (0 : Int32) (Fit f.toInt (c 106 (c 108 w1.toInt.toNat).toNatClampNeg).toInt w2.toInt (c 106 (c 108 w2.toInt.toNat).toNatClampNeg).toInt) from sm_0 (by unfold Fit FtL FtR; omega))⟩
      · have f13 := (ti_eq (a := r1.toInt) (b := 4) rfl (by decide +kernel)).mp c13
        refine lv_iconst (v := 1) hx hb dX1_isFitting_99 (by decide +kernel) ?_
        refine lv_goto (tgt := 225) hx hb dX1_isFitting_100 (by decide +kernel) ?_
        exact ro_zret hx hb hr hlocks hS rfl dX1_isFitting_225 ⟨(show 0 ≤ (1 : Int32).toInt ∧ (1 : Int32).toInt ≤ 1 from by have h9 : (1 : Int32).toInt = 1 := (by decide +kernel); omega), (show Sm (1 : Int32) (Fit f.toInt (c 106 (c 108 w1.toInt.toNat).toNatClampNeg).toInt w2.toInt (c 106 (c 108 w2.toInt.toNat).toNatClampNeg).toInt) from sm_1 (by unfold Fit FtL FtR; omega))⟩
  · refine lv_tableIn (off := 96) (tgt := 107) hx hb dX1_isFitting_11 (by omega) (by omega) (by rw [f2]; rfl) (by decide +kernel) ?_
    refine lv_aload_n hx hb dX1_isFitting_107 rfl (lv_at hl 1 rfl) ?_
    refine xgB_B_world hx hb hts (fun _ h => List.mem_cons_of_mem _ (List.mem_append_left _ (List.mem_append_right _ h))) hown hK hP (hts (.fieldLink RX1 43 "TalePlay$Book" "world" "LTalePlay$World;") (List.mem_cons_of_mem _ (List.mem_append_left _ (List.mem_append_left _ (List.mem_append_left _ (List.mem_of_getElem? (i := 0) rfl)))))) dX1_isFitting_108 ?_
    refine lv_iload_n hx hb dX1_isFitting_111 rfl (lv_at hl 3 rfl) ?_
    refine ro_calli (va_runV (As := [.int w1]) (rest := []) ⟨hx, hb, hml, hown, hts⟩ (x_X10_isGoods_e l D H.size .null a t i q c d w1 hI (show 0 ≤ w1.toInt ∧ w1.toInt < ((i 111) : Int32).toInt from by omega)) (cwV 1 hts gm_X1_isFitting_e_X10_isGoods_e_79 rfl rfl rfl (by decide +kernel) ⟨Nat.le_of_ble_eq_true rfl, Nat.le_of_ble_eq_true rfl⟩) (yA_V hN (xZ_k hZ hS hA) (xkB_W hK) (xuB_W (sk := sk) hP) (ci := 10) (q0 := 0) rfl rfl) rfl rfl hl.1 rfl (lv_room (Nat.le_of_ble_eq_true rfl)) dX1_isFitting_112 ⟨Nat.le_of_ble_eq_true rfl, Nat.le_of_ble_eq_true rfl⟩) hS hA hP (fun r14 u14 H locs hw14 hP hS => ?_)
    have hw14 : (((r14.toInt = 1 ∧ (((c 106 (c 108 w1.toInt.toNat).toNatClampNeg).toInt = 1 ∨ 3 ≤ (c 106 (c 108 w1.toInt.toNat).toNatClampNeg).toInt) ∧ ¬ (c 106 (c 108 w1.toInt.toNat).toNatClampNeg).toInt = 5)) ∨ (r14.toInt = 0 ∧ ¬ (((c 106 (c 108 w1.toInt.toNat).toNatClampNeg).toInt = 1 ∨ 3 ≤ (c 106 (c 108 w1.toInt.toNat).toNatClampNeg).toInt) ∧ ¬ (c 106 (c 108 w1.toInt.toNat).toNatClampNeg).toInt = 5)))) := hw14
    refine lv_if_eq (tgt := 128) hx hb dX1_isFitting_115 (by decide +kernel) (fun c15 => ?_) (fun c15 => ?_)
    · have f15 := (ti_eq (a := r14.toInt) (b := 0) rfl (by decide +kernel)).mp c15
      refine lv_iconst (v := 0) hx hb dX1_isFitting_128 (by decide +kernel) ?_
      refine lv_goto (tgt := 225) hx hb dX1_isFitting_129 (by decide +kernel) ?_
      exact ro_zret hx hb hr hlocks hS rfl dX1_isFitting_225 ⟨(show 0 ≤ (0 : Int32).toInt ∧ (0 : Int32).toInt ≤ 1 from by have h9 : (0 : Int32).toInt = 0 := (by decide +kernel); omega), (show Sm (0 : Int32) (Fit f.toInt (c 106 (c 108 w1.toInt.toNat).toNatClampNeg).toInt w2.toInt (c 106 (c 108 w2.toInt.toNat).toNatClampNeg).toInt) from sm_0 (by unfold Fit FtL FtR; omega))⟩
    · have f15 := mt (ti_eq (a := r14.toInt) (b := 0) rfl (by decide +kernel)).mpr c15
      refine lv_iload hx hb dX1_isFitting_118 (lv_at hl 0 rfl) ?_
      refine lv_iconst (v := 5) hx hb dX1_isFitting_120 (by decide +kernel) ?_
      refine lv_icmp_ne (tgt := 128) hx hb dX1_isFitting_121 (by decide +kernel) (fun c16 => ?_) (fun c16 => ?_)
      · have f16 := mt (ti_eq (a := r1.toInt) (b := 5) rfl (by decide +kernel)).mpr c16
        refine lv_iconst (v := 0) hx hb dX1_isFitting_128 (by decide +kernel) ?_
        refine lv_goto (tgt := 225) hx hb dX1_isFitting_129 (by decide +kernel) ?_
        exact ro_zret hx hb hr hlocks hS rfl dX1_isFitting_225 ⟨(show 0 ≤ (0 : Int32).toInt ∧ (0 : Int32).toInt ≤ 1 from by have h9 : (0 : Int32).toInt = 0 := (by decide +kernel); omega), (show Sm (0 : Int32) (Fit f.toInt (c 106 (c 108 w1.toInt.toNat).toNatClampNeg).toInt w2.toInt (c 106 (c 108 w2.toInt.toNat).toNatClampNeg).toInt) from sm_0 (by unfold Fit FtL FtR; omega))⟩
      · have f16 := (ti_eq (a := r1.toInt) (b := 5) rfl (by decide +kernel)).mp c16
        refine lv_iconst (v := 1) hx hb dX1_isFitting_124 (by decide +kernel) ?_
        refine lv_goto (tgt := 225) hx hb dX1_isFitting_125 (by decide +kernel) ?_
        exact ro_zret hx hb hr hlocks hS rfl dX1_isFitting_225 ⟨(show 0 ≤ (1 : Int32).toInt ∧ (1 : Int32).toInt ≤ 1 from by have h9 : (1 : Int32).toInt = 1 := (by decide +kernel); omega), (show Sm (1 : Int32) (Fit f.toInt (c 106 (c 108 w1.toInt.toNat).toNatClampNeg).toInt w2.toInt (c 106 (c 108 w2.toInt.toNat).toNatClampNeg).toInt) from sm_1 (by unfold Fit FtL FtR; omega))⟩
  · refine lv_tableIn (off := 96) (tgt := 107) hx hb dX1_isFitting_11 (by omega) (by omega) (by rw [f2]; rfl) (by decide +kernel) ?_
    refine lv_aload_n hx hb dX1_isFitting_107 rfl (lv_at hl 1 rfl) ?_
    refine xgB_B_world hx hb hts (fun _ h => List.mem_cons_of_mem _ (List.mem_append_left _ (List.mem_append_right _ h))) hown hK hP (hts (.fieldLink RX1 43 "TalePlay$Book" "world" "LTalePlay$World;") (List.mem_cons_of_mem _ (List.mem_append_left _ (List.mem_append_left _ (List.mem_append_left _ (List.mem_of_getElem? (i := 0) rfl)))))) dX1_isFitting_108 ?_
    refine lv_iload_n hx hb dX1_isFitting_111 rfl (lv_at hl 3 rfl) ?_
    refine ro_calli (va_runV (As := [.int w1]) (rest := []) ⟨hx, hb, hml, hown, hts⟩ (x_X10_isGoods_e l D H.size .null a t i q c d w1 hI (show 0 ≤ w1.toInt ∧ w1.toInt < ((i 111) : Int32).toInt from by omega)) (cwV 1 hts gm_X1_isFitting_e_X10_isGoods_e_79 rfl rfl rfl (by decide +kernel) ⟨Nat.le_of_ble_eq_true rfl, Nat.le_of_ble_eq_true rfl⟩) (yA_V hN (xZ_k hZ hS hA) (xkB_W hK) (xuB_W (sk := sk) hP) (ci := 10) (q0 := 0) rfl rfl) rfl rfl hl.1 rfl (lv_room (Nat.le_of_ble_eq_true rfl)) dX1_isFitting_112 ⟨Nat.le_of_ble_eq_true rfl, Nat.le_of_ble_eq_true rfl⟩) hS hA hP (fun r17 u17 H locs hw17 hP hS => ?_)
    have hw17 : (((r17.toInt = 1 ∧ (((c 106 (c 108 w1.toInt.toNat).toNatClampNeg).toInt = 1 ∨ 3 ≤ (c 106 (c 108 w1.toInt.toNat).toNatClampNeg).toInt) ∧ ¬ (c 106 (c 108 w1.toInt.toNat).toNatClampNeg).toInt = 5)) ∨ (r17.toInt = 0 ∧ ¬ (((c 106 (c 108 w1.toInt.toNat).toNatClampNeg).toInt = 1 ∨ 3 ≤ (c 106 (c 108 w1.toInt.toNat).toNatClampNeg).toInt) ∧ ¬ (c 106 (c 108 w1.toInt.toNat).toNatClampNeg).toInt = 5)))) := hw17
    refine lv_if_eq (tgt := 128) hx hb dX1_isFitting_115 (by decide +kernel) (fun c18 => ?_) (fun c18 => ?_)
    · have f18 := (ti_eq (a := r17.toInt) (b := 0) rfl (by decide +kernel)).mp c18
      refine lv_iconst (v := 0) hx hb dX1_isFitting_128 (by decide +kernel) ?_
      refine lv_goto (tgt := 225) hx hb dX1_isFitting_129 (by decide +kernel) ?_
      exact ro_zret hx hb hr hlocks hS rfl dX1_isFitting_225 ⟨(show 0 ≤ (0 : Int32).toInt ∧ (0 : Int32).toInt ≤ 1 from by have h9 : (0 : Int32).toInt = 0 := (by decide +kernel); omega), (show Sm (0 : Int32) (Fit f.toInt (c 106 (c 108 w1.toInt.toNat).toNatClampNeg).toInt w2.toInt (c 106 (c 108 w2.toInt.toNat).toNatClampNeg).toInt) from sm_0 (by unfold Fit FtL FtR; omega))⟩
    · have f18 := mt (ti_eq (a := r17.toInt) (b := 0) rfl (by decide +kernel)).mpr c18
      refine lv_iload hx hb dX1_isFitting_118 (lv_at hl 0 rfl) ?_
      refine lv_iconst (v := 5) hx hb dX1_isFitting_120 (by decide +kernel) ?_
      refine lv_icmp_ne (tgt := 128) hx hb dX1_isFitting_121 (by decide +kernel) (fun c19 => ?_) (fun c19 => ?_)
      · have f19 := mt (ti_eq (a := r1.toInt) (b := 5) rfl (by decide +kernel)).mpr c19
        refine lv_iconst (v := 0) hx hb dX1_isFitting_128 (by decide +kernel) ?_
        refine lv_goto (tgt := 225) hx hb dX1_isFitting_129 (by decide +kernel) ?_
        exact ro_zret hx hb hr hlocks hS rfl dX1_isFitting_225 ⟨(show 0 ≤ (0 : Int32).toInt ∧ (0 : Int32).toInt ≤ 1 from by have h9 : (0 : Int32).toInt = 0 := (by decide +kernel); omega), (show Sm (0 : Int32) (Fit f.toInt (c 106 (c 108 w1.toInt.toNat).toNatClampNeg).toInt w2.toInt (c 106 (c 108 w2.toInt.toNat).toNatClampNeg).toInt) from sm_0 (by unfold Fit FtL FtR; omega))⟩
      · have f19 := (ti_eq (a := r1.toInt) (b := 5) rfl (by decide +kernel)).mp c19
        refine lv_iconst (v := 1) hx hb dX1_isFitting_124 (by decide +kernel) ?_
        refine lv_goto (tgt := 225) hx hb dX1_isFitting_125 (by decide +kernel) ?_
        exact ro_zret hx hb hr hlocks hS rfl dX1_isFitting_225 ⟨(show 0 ≤ (1 : Int32).toInt ∧ (1 : Int32).toInt ≤ 1 from by have h9 : (1 : Int32).toInt = 1 := (by decide +kernel); omega), (show Sm (1 : Int32) (Fit f.toInt (c 106 (c 108 w1.toInt.toNat).toNatClampNeg).toInt w2.toInt (c 106 (c 108 w2.toInt.toNat).toNatClampNeg).toInt) from sm_1 (by unfold Fit FtL FtR; omega))⟩
  · refine lv_tableIn (off := 121) (tgt := 132) hx hb dX1_isFitting_11 (by omega) (by omega) (by rw [f2]; rfl) (by decide +kernel) ?_
    refine lv_aload_n hx hb dX1_isFitting_132 rfl (lv_at hl 1 rfl) ?_
    refine xgB_B_world hx hb hts (fun _ h => List.mem_cons_of_mem _ (List.mem_append_left _ (List.mem_append_right _ h))) hown hK hP (hts (.fieldLink RX1 43 "TalePlay$Book" "world" "LTalePlay$World;") (List.mem_cons_of_mem _ (List.mem_append_left _ (List.mem_append_left _ (List.mem_append_left _ (List.mem_of_getElem? (i := 0) rfl)))))) dX1_isFitting_133 ?_
    refine lv_iload_n hx hb dX1_isFitting_136 rfl (lv_at hl 3 rfl) ?_
    refine ro_calli (va_runV (As := [.int w1]) (rest := []) ⟨hx, hb, hml, hown, hts⟩ (x_X10_isGoods_e l D H.size .null a t i q c d w1 hI (show 0 ≤ w1.toInt ∧ w1.toInt < ((i 111) : Int32).toInt from by omega)) (cwV 1 hts gm_X1_isFitting_e_X10_isGoods_e_79 rfl rfl rfl (by decide +kernel) ⟨Nat.le_of_ble_eq_true rfl, Nat.le_of_ble_eq_true rfl⟩) (yA_V hN (xZ_k hZ hS hA) (xkB_W hK) (xuB_W (sk := sk) hP) (ci := 10) (q0 := 0) rfl rfl) rfl rfl hl.1 rfl (lv_room (Nat.le_of_ble_eq_true rfl)) dX1_isFitting_137 ⟨Nat.le_of_ble_eq_true rfl, Nat.le_of_ble_eq_true rfl⟩) hS hA hP (fun r20 u20 H locs hw20 hP hS => ?_)
    have hw20 : (((r20.toInt = 1 ∧ (((c 106 (c 108 w1.toInt.toNat).toNatClampNeg).toInt = 1 ∨ 3 ≤ (c 106 (c 108 w1.toInt.toNat).toNatClampNeg).toInt) ∧ ¬ (c 106 (c 108 w1.toInt.toNat).toNatClampNeg).toInt = 5)) ∨ (r20.toInt = 0 ∧ ¬ (((c 106 (c 108 w1.toInt.toNat).toNatClampNeg).toInt = 1 ∨ 3 ≤ (c 106 (c 108 w1.toInt.toNat).toNatClampNeg).toInt) ∧ ¬ (c 106 (c 108 w1.toInt.toNat).toNatClampNeg).toInt = 5)))) := hw20
    refine lv_if_eq (tgt := 152) hx hb dX1_isFitting_140 (by decide +kernel) (fun c21 => ?_) (fun c21 => ?_)
    · have f21 := (ti_eq (a := r20.toInt) (b := 0) rfl (by decide +kernel)).mp c21
      refine lv_iconst (v := 0) hx hb dX1_isFitting_152 (by decide +kernel) ?_
      refine lv_goto (tgt := 225) hx hb dX1_isFitting_153 (by decide +kernel) ?_
      exact ro_zret hx hb hr hlocks hS rfl dX1_isFitting_225 ⟨(show 0 ≤ (0 : Int32).toInt ∧ (0 : Int32).toInt ≤ 1 from by have h9 : (0 : Int32).toInt = 0 := (by decide +kernel); omega), (show Sm (0 : Int32) (Fit f.toInt (c 106 (c 108 w1.toInt.toNat).toNatClampNeg).toInt w2.toInt (c 106 (c 108 w2.toInt.toNat).toNatClampNeg).toInt) from sm_0 (by unfold Fit FtL FtR; omega))⟩
    · have f21 := mt (ti_eq (a := r20.toInt) (b := 0) rfl (by decide +kernel)).mpr c21
      refine lv_iload hx hb dX1_isFitting_143 (lv_at hl 0 rfl) ?_
      refine lv_if_eq (tgt := 152) hx hb dX1_isFitting_145 (by decide +kernel) (fun c22 => ?_) (fun c22 => ?_)
      · have f22 := (ti_eq (a := r1.toInt) (b := 0) rfl (by decide +kernel)).mp c22
        refine lv_iconst (v := 0) hx hb dX1_isFitting_152 (by decide +kernel) ?_
        refine lv_goto (tgt := 225) hx hb dX1_isFitting_153 (by decide +kernel) ?_
        exact ro_zret hx hb hr hlocks hS rfl dX1_isFitting_225 ⟨(show 0 ≤ (0 : Int32).toInt ∧ (0 : Int32).toInt ≤ 1 from by have h9 : (0 : Int32).toInt = 0 := (by decide +kernel); omega), (show Sm (0 : Int32) (Fit f.toInt (c 106 (c 108 w1.toInt.toNat).toNatClampNeg).toInt w2.toInt (c 106 (c 108 w2.toInt.toNat).toNatClampNeg).toInt) from sm_0 (by unfold Fit FtL FtR; omega))⟩
      · have f22 := mt (ti_eq (a := r1.toInt) (b := 0) rfl (by decide +kernel)).mpr c22
        refine lv_iconst (v := 1) hx hb dX1_isFitting_148 (by decide +kernel) ?_
        refine lv_goto (tgt := 225) hx hb dX1_isFitting_149 (by decide +kernel) ?_
        exact ro_zret hx hb hr hlocks hS rfl dX1_isFitting_225 ⟨(show 0 ≤ (1 : Int32).toInt ∧ (1 : Int32).toInt ≤ 1 from by have h9 : (1 : Int32).toInt = 1 := (by decide +kernel); omega), (show Sm (1 : Int32) (Fit f.toInt (c 106 (c 108 w1.toInt.toNat).toNatClampNeg).toInt w2.toInt (c 106 (c 108 w2.toInt.toNat).toNatClampNeg).toInt) from sm_1 (by unfold Fit FtL FtR; omega))⟩
  · refine lv_tableIn (off := 145) (tgt := 156) hx hb dX1_isFitting_11 (by omega) (by omega) (by rw [f2]; rfl) (by decide +kernel) ?_
    refine lv_aload_n hx hb dX1_isFitting_156 rfl (lv_at hl 1 rfl) ?_
    refine xgB_B_world hx hb hts (fun _ h => List.mem_cons_of_mem _ (List.mem_append_left _ (List.mem_append_right _ h))) hown hK hP (hts (.fieldLink RX1 43 "TalePlay$Book" "world" "LTalePlay$World;") (List.mem_cons_of_mem _ (List.mem_append_left _ (List.mem_append_left _ (List.mem_append_left _ (List.mem_of_getElem? (i := 0) rfl)))))) dX1_isFitting_157 ?_
    refine lv_iload_n hx hb dX1_isFitting_160 rfl (lv_at hl 3 rfl) ?_
    refine ro_calli (va_runV (As := [.int w1]) (rest := []) ⟨hx, hb, hml, hown, hts⟩ (x_X10_sortOf_e l D H.size .null a t i q c d w1 hI ) (cwV 1 hts gm_X1_isFitting_e_X10_sortOf_e_72 rfl rfl rfl (by decide +kernel) ⟨Nat.le_of_ble_eq_true rfl, Nat.le_of_ble_eq_true rfl⟩) (yA_V hN (xZ_k hZ hS hA) (xkB_W hK) (xuB_W (sk := sk) hP) (ci := 10) (q0 := 0) rfl rfl) rfl rfl hl.1 rfl (lv_room (Nat.le_of_ble_eq_true rfl)) dX1_isFitting_161 ⟨Nat.le_of_ble_eq_true rfl, Nat.le_of_ble_eq_true rfl⟩) hS hA hP (fun r23 u23 H locs hw23 hP hS => ?_)
    have hw23 : (((r23.toInt = -9 ∧ ¬ (0 ≤ w1.toInt ∧ w1.toInt < (i 111).toInt)) ∨ (0 ≤ r23.toInt ∧ r23.toInt ≤ 5 ∧ 0 ≤ w1.toInt ∧ w1.toInt < (i 111).toInt)) ∧ (SO (c 106) (c 108) (i 111).toInt w1.toInt r23.toInt)) := hw23
    obtain ⟨hw23, hr23_0⟩ := hw23
    have hr23_0 : SO (c 106) (c 108) (i 111).toInt w1.toInt r23.toInt := hr23_0
    have hoa : r23.toInt = (c 106 (c 108 w1.toInt.toNat).toNatClampNeg).toInt := by rcases hr23_0 with h9 | h9; (· exact h9.2.2); (· exfalso; omega)
    refine lv_if_ne (tgt := 182) hx hb dX1_isFitting_164 (by decide +kernel) (fun c24 => ?_) (fun c24 => ?_)
    · have f24 := mt (ti_eq (a := r23.toInt) (b := 0) rfl (by decide +kernel)).mpr c24
      refine lv_iconst (v := 0) hx hb dX1_isFitting_182 (by decide +kernel) ?_
      refine lv_goto (tgt := 225) hx hb dX1_isFitting_183 (by decide +kernel) ?_
      exact ro_zret hx hb hr hlocks hS rfl dX1_isFitting_225 ⟨(show 0 ≤ (0 : Int32).toInt ∧ (0 : Int32).toInt ≤ 1 from by have h9 : (0 : Int32).toInt = 0 := (by decide +kernel); omega), (show Sm (0 : Int32) (Fit f.toInt (c 106 (c 108 w1.toInt.toNat).toNatClampNeg).toInt w2.toInt (c 106 (c 108 w2.toInt.toNat).toNatClampNeg).toInt) from sm_0 (by unfold Fit FtL FtR; omega))⟩
    · have f24 := (ti_eq (a := r23.toInt) (b := 0) rfl (by decide +kernel)).mp c24
      refine lv_iload hx hb dX1_isFitting_167 (lv_at hl 0 rfl) ?_
      refine lv_if_eq (tgt := 178) hx hb dX1_isFitting_169 (by decide +kernel) (fun c25 => ?_) (fun c25 => ?_)
      · have f25 := (ti_eq (a := r1.toInt) (b := 0) rfl (by decide +kernel)).mp c25
        refine lv_iconst (v := 1) hx hb dX1_isFitting_178 (by decide +kernel) ?_
        refine lv_goto (tgt := 225) hx hb dX1_isFitting_179 (by decide +kernel) ?_
        exact ro_zret hx hb hr hlocks hS rfl dX1_isFitting_225 ⟨(show 0 ≤ (1 : Int32).toInt ∧ (1 : Int32).toInt ≤ 1 from by have h9 : (1 : Int32).toInt = 1 := (by decide +kernel); omega), (show Sm (1 : Int32) (Fit f.toInt (c 106 (c 108 w1.toInt.toNat).toNatClampNeg).toInt w2.toInt (c 106 (c 108 w2.toInt.toNat).toNatClampNeg).toInt) from sm_1 (by unfold Fit FtL FtR; omega))⟩
      · have f25 := mt (ti_eq (a := r1.toInt) (b := 0) rfl (by decide +kernel)).mpr c25
        refine lv_iload hx hb dX1_isFitting_172 (lv_at hl 0 rfl) ?_
        refine lv_iconst (v := 2) hx hb dX1_isFitting_174 (by decide +kernel) ?_
        refine lv_icmp_ne (tgt := 182) hx hb dX1_isFitting_175 (by decide +kernel) (fun c26 => ?_) (fun c26 => ?_)
        · have f26 := mt (ti_eq (a := r1.toInt) (b := 2) rfl (by decide +kernel)).mpr c26
          refine lv_iconst (v := 0) hx hb dX1_isFitting_182 (by decide +kernel) ?_
          refine lv_goto (tgt := 225) hx hb dX1_isFitting_183 (by decide +kernel) ?_
          exact ro_zret hx hb hr hlocks hS rfl dX1_isFitting_225 ⟨(show 0 ≤ (0 : Int32).toInt ∧ (0 : Int32).toInt ≤ 1 from by have h9 : (0 : Int32).toInt = 0 := (by decide +kernel); omega), (show Sm (0 : Int32) (Fit f.toInt (c 106 (c 108 w1.toInt.toNat).toNatClampNeg).toInt w2.toInt (c 106 (c 108 w2.toInt.toNat).toNatClampNeg).toInt) from sm_0 (by unfold Fit FtL FtR; omega))⟩
        · have f26 := (ti_eq (a := r1.toInt) (b := 2) rfl (by decide +kernel)).mp c26
          refine lv_iconst (v := 1) hx hb dX1_isFitting_178 (by decide +kernel) ?_
          refine lv_goto (tgt := 225) hx hb dX1_isFitting_179 (by decide +kernel) ?_
          exact ro_zret hx hb hr hlocks hS rfl dX1_isFitting_225 ⟨(show 0 ≤ (1 : Int32).toInt ∧ (1 : Int32).toInt ≤ 1 from by have h9 : (1 : Int32).toInt = 1 := (by decide +kernel); omega), (show Sm (1 : Int32) (Fit f.toInt (c 106 (c 108 w1.toInt.toNat).toNatClampNeg).toInt w2.toInt (c 106 (c 108 w2.toInt.toNat).toNatClampNeg).toInt) from sm_1 (by unfold Fit FtL FtR; omega))⟩
  · refine lv_tableIn (off := 175) (tgt := 186) hx hb dX1_isFitting_11 (by omega) (by omega) (by rw [f2]; rfl) (by decide +kernel) ?_
    refine lv_aload_n hx hb dX1_isFitting_186 rfl (lv_at hl 1 rfl) ?_
    refine xgB_B_world hx hb hts (fun _ h => List.mem_cons_of_mem _ (List.mem_append_left _ (List.mem_append_right _ h))) hown hK hP (hts (.fieldLink RX1 43 "TalePlay$Book" "world" "LTalePlay$World;") (List.mem_cons_of_mem _ (List.mem_append_left _ (List.mem_append_left _ (List.mem_append_left _ (List.mem_of_getElem? (i := 0) rfl)))))) dX1_isFitting_187 ?_
    refine lv_iload_n hx hb dX1_isFitting_190 rfl (lv_at hl 3 rfl) ?_
    refine lv_iload_n hx hb dX1_isFitting_191 rfl (lv_at hl 4 rfl) ?_
    refine ro_calli (va_runV (As := [.int w1, .int w2]) (rest := []) ⟨hx, hb, hml, hown, hts⟩ (x_X10_canHave_e l D H.size .null a t i q c d w1 w2 hI (show 0 ≤ w1.toInt ∧ w1.toInt < ((i 111) : Int32).toInt from by omega) (show 0 ≤ w2.toInt ∧ w2.toInt ≤ 5 from by omega)) (cwV 2 hts gm_X1_isFitting_e_X10_canHave_e_82 rfl rfl rfl (by decide +kernel) ⟨Nat.le_of_ble_eq_true rfl, Nat.le_of_ble_eq_true rfl⟩) (yA_V hN (xZ_k hZ hS hA) (xkB_W hK) (xuB_W (sk := sk) hP) (ci := 10) (q0 := 0) rfl rfl) rfl rfl hl.1 rfl (lv_room (Nat.le_of_ble_eq_true rfl)) dX1_isFitting_192 ⟨Nat.le_of_ble_eq_true rfl, Nat.le_of_ble_eq_true rfl⟩) hS hA hP (fun r27 u27 H locs hw27 hP hS => ?_)
    have hw27 : (((r27.toInt = 1 ∧ ((w2.toInt ≤ 1 ∧ ((c 106 (c 108 w1.toInt.toNat).toNatClampNeg).toInt = 2 ∨ (c 106 (c 108 w1.toInt.toNat).toNatClampNeg).toInt = 3)) ∨ w2.toInt = 2 ∨ (w2.toInt = 3 ∧ ((c 106 (c 108 w1.toInt.toNat).toNatClampNeg).toInt = 1 ∨ 3 ≤ (c 106 (c 108 w1.toInt.toNat).toNatClampNeg).toInt)) ∨ (w2.toInt = 4 ∧ (((c 106 (c 108 w1.toInt.toNat).toNatClampNeg).toInt = 1 ∨ 3 ≤ (c 106 (c 108 w1.toInt.toNat).toNatClampNeg).toInt) ∧ ¬ (c 106 (c 108 w1.toInt.toNat).toNatClampNeg).toInt = 5)) ∨ (5 ≤ w2.toInt ∧ (c 106 (c 108 w1.toInt.toNat).toNatClampNeg).toInt = 3))) ∨ (r27.toInt = 0 ∧ ¬ ((w2.toInt ≤ 1 ∧ ((c 106 (c 108 w1.toInt.toNat).toNatClampNeg).toInt = 2 ∨ (c 106 (c 108 w1.toInt.toNat).toNatClampNeg).toInt = 3)) ∨ w2.toInt = 2 ∨ (w2.toInt = 3 ∧ ((c 106 (c 108 w1.toInt.toNat).toNatClampNeg).toInt = 1 ∨ 3 ≤ (c 106 (c 108 w1.toInt.toNat).toNatClampNeg).toInt)) ∨ (w2.toInt = 4 ∧ (((c 106 (c 108 w1.toInt.toNat).toNatClampNeg).toInt = 1 ∨ 3 ≤ (c 106 (c 108 w1.toInt.toNat).toNatClampNeg).toInt) ∧ ¬ (c 106 (c 108 w1.toInt.toNat).toNatClampNeg).toInt = 5)) ∨ (5 ≤ w2.toInt ∧ (c 106 (c 108 w1.toInt.toNat).toNatClampNeg).toInt = 3))))) := hw27
    refine lv_goto (tgt := 225) hx hb dX1_isFitting_195 (by decide +kernel) ?_
    exact ro_zret hx hb hr hlocks hS (nb_n (show 0 ≤ r27.toInt ∧ r27.toInt ≤ 1 from by omega)) dX1_isFitting_225 ⟨(show 0 ≤ r27.toInt ∧ r27.toInt ≤ 1 from by omega), (show Sm r27 (Fit f.toInt (c 106 (c 108 w1.toInt.toNat).toNatClampNeg).toInt w2.toInt (c 106 (c 108 w2.toInt.toNat).toNatClampNeg).toInt) from by unfold Sm Fit FtL FtR; omega)⟩

def wm_X1_standingFor_e : List Cond := .code yX1_standingFor cX1_standingFor 5 (some .int) :: (([.fieldLink RX1 28 "TalePlay$Book" "placeBy" "[I", .fieldLink RX1 31 "TalePlay$Book" "exitBy" "[I", .fieldLink RX1 34 "TalePlay$Book" "flagBy" "[I", .fieldLink RX1 37 "TalePlay$Book" "keyBy" "[I"] : List Cond) ++ wsX10)
set_option maxHeartbeats 4000000 in
set_option maxRecDepth 100000 in
theorem x_X1_standingFor_e (l : Launch) (D : va_G) (sz : Nat) (sk : Value) (a : Nat → Nat) (t : Nat → ClassId) (i : Nat → Int32) (q : Int64) (c : Nat → Nat → Int32) (d : Nat → Nat → Int64) (f : Int32) (w1 : Int32) (w2 : Int32) (w3 : Int32) (hI : xInv i c) (hw1 : 0 ≤ w1.toInt ∧ w1.toInt ≤ 29) (hfl : f.toInt = 6 → 0 ≤ w2.toInt ∧ w2.toInt ≤ 5) (hex : f.toInt = 5 → 0 ≤ w3.toInt ∧ w3.toInt ≤ 9) (hky : f.toInt = 7 → 0 ≤ w2.toInt ∧ w2.toInt ≤ 29) : Met l yX1_standingFor wm_X1_standingFor_e ({ frames := 0, cells := 0, slots := 0, locals := 0 }) (va_Pc [.ref (a 112), .int f, .int w1, .int w2, .int w3] (yA (a 186) D sz (xwB sk a t i q c d) (xtB t))) (va_Qi (fun (r : Int32) (_ : Unit) => ((r.toInt = -9 ∨ (0 ≤ r.toInt ∧ r.toInt ≤ 199)) ∧ (r = sFv (c 118) (c 119) (c 120) (c 121) f.toInt w1.toInt w2.toInt w3.toInt))) oA (ro sz)) 0 0 (ro sz) := by
  refine Met.ofW (cc := cX1_standingFor) (maxL := 5) (ret := (some .int)) (by decide +kernel) rfl ?_
  intro p e s m args below meth cd s₁ B hml hv
  obtain ⟨rfl, ⟨hsz, hP, hK⟩, hN, hZ⟩ := hv
  have hx := B.exec
  have hb := B.bytes
  have hr := B.returns
  have hts := atoms_spec (ws := wm_X1_standingFor_e) B.pre
  have hown : s.vm.findClass RX1 = some m.cls := findClass_of_methodNamed B.named
  have hlocks := B.notSynchronized
  subst hsz
  have hA : ∀ q : Nat, s.heap.size ≤ q → ro s.heap.size q := fun _ h => h
  have hS : va_S (ro s.heap.size) s.heap s.heap [] := va_S.rf
  have hl := lv_entry ([.ref (a 112), .int f, .int w1, .int w2, .int w3]) (n := 5) (Nat.le_of_ble_eq_true rfl)
  rw [lg_entry_eq]
  generalize (lg_sl ([.ref (a 112), .int f, .int w1, .int w2, .int w3]) ++ List.replicate (5 - (lg_sl ([.ref (a 112), .int f, .int w1, .int w2, .int w3])).length) Slot.unset).toArray = ls at hl ⊢
  have hl : lv_has ls 5 [(0, .ref (a 112)), (1, .int f), (2, .int w1), (3, .int w2), (4, .int w3)] := hl
  refine lv_iload_n hx hb dX1_standingFor_0 rfl (lv_at hl 1 rfl) ?_
  rcases (show (f.toInt < 5 ∨ 7 < f.toInt) ∨ f.toInt = 5 ∨ f.toInt = 6 ∨ f.toInt = 7 by omega) with f1 | f1 | f1 | f1
  · refine lv_tableOut (tgt := 66) hx hb dX1_standingFor_1 f1 (by decide +kernel) ?_
    refine lv_aload_n hx hb dX1_standingFor_66 rfl (lv_at hl 0 rfl) ?_
    refine xgB_B_placeBy hx hb hts (fun _ h => List.mem_cons_of_mem _ (List.mem_append_right _ h)) hown hK hP (hts (.fieldLink RX1 28 "TalePlay$Book" "placeBy" "[I") (List.mem_cons_of_mem _ (List.mem_append_left _ (List.mem_of_getElem? (i := 0) rfl)))) dX1_standingFor_67 ?_
    refine lv_iload_n hx hb dX1_standingFor_70 rfl (lv_at hl 2 rfl) ?_
    refine xlB_118 hx hb hK hP (vp_in_iff.mpr (by have h9 : w1.toInt = w1.toInt := rfl; omega)) dX1_standingFor_71 (fun x2 ex2 => ?_)
    have rx2 : x2.toInt = -9 ∨ (0 ≤ x2.toInt ∧ x2.toInt ≤ 199) := by rw [ex2]; exact hI.2 118 _
    exact ro_iret hx hb hr hlocks hS dX1_standingFor_72 ⟨(show x2.toInt = -9 ∨ (0 ≤ x2.toInt ∧ x2.toInt ≤ 199) from by omega), (show x2 = sFv (c 118) (c 119) (c 120) (c 121) f.toInt w1.toInt w2.toInt w3.toInt from by unfold sFv; rw [if_neg (by omega), if_neg (by omega), if_neg (by omega)]; exact ex2)⟩
  · refine lv_tableIn (off := 27) (tgt := 28) hx hb dX1_standingFor_1 (by omega) (by omega) (by rw [f1]; rfl) (by decide +kernel) ?_
    refine lv_aload_n hx hb dX1_standingFor_28 rfl (lv_at hl 0 rfl) ?_
    refine xgB_B_exitBy hx hb hts (fun _ h => List.mem_cons_of_mem _ (List.mem_append_right _ h)) hown hK hP (hts (.fieldLink RX1 31 "TalePlay$Book" "exitBy" "[I") (List.mem_cons_of_mem _ (List.mem_append_left _ (List.mem_of_getElem? (i := 1) rfl)))) dX1_standingFor_29 ?_
    refine lv_iload_n hx hb dX1_standingFor_32 rfl (lv_at hl 2 rfl) ?_
    refine lv_bipush (v := 10) hx hb dX1_standingFor_33 (by decide +kernel) ?_
    refine lv_imul hx hb dX1_standingFor_35 ?_
    refine lv_topi (fun x3 ex3 => ?_)
    have tx3 := ti_mul (a := w1.toInt) (b := 10) ex3 rfl (by decide +kernel) (by omega) (by omega)
    refine lv_iload hx hb dX1_standingFor_36 (lv_at hl 4 rfl) ?_
    refine lv_iadd hx hb dX1_standingFor_38 ?_
    refine lv_topi (fun x4 ex4 => ?_)
    have tx4 := ti_add (a := (w1.toInt * 10)) (b := w3.toInt) ex4 tx3 rfl (by omega) (by omega)
    refine xlB_119 hx hb hK hP (vp_in_iff.mpr (by have h9 : x4.toInt = ((w1.toInt * 10) + w3.toInt) := tx4; omega)) dX1_standingFor_39 (fun x5 ex5 => ?_)
    have rx5 : x5.toInt = -9 ∨ (0 ≤ x5.toInt ∧ x5.toInt ≤ 199) := by rw [ex5]; exact hI.2 119 _
    refine lv_goto (tgt := 72) hx hb dX1_standingFor_40 (by decide +kernel) ?_
    exact ro_iret hx hb hr hlocks hS dX1_standingFor_72 ⟨(show x5.toInt = -9 ∨ (0 ≤ x5.toInt ∧ x5.toInt ≤ 199) from by omega), (show x5 = sFv (c 118) (c 119) (c 120) (c 121) f.toInt w1.toInt w2.toInt w3.toInt from by unfold sFv; rw [if_pos (by omega)]; exact (ix_n (f := c 119) (s := x4) (show (x4 : Int32).toInt = w1.toInt * 10 + w3.toInt from by omega) ex5).symm)⟩
  · refine lv_tableIn (off := 42) (tgt := 43) hx hb dX1_standingFor_1 (by omega) (by omega) (by rw [f1]; rfl) (by decide +kernel) ?_
    refine lv_aload_n hx hb dX1_standingFor_43 rfl (lv_at hl 0 rfl) ?_
    refine xgB_B_flagBy hx hb hts (fun _ h => List.mem_cons_of_mem _ (List.mem_append_right _ h)) hown hK hP (hts (.fieldLink RX1 34 "TalePlay$Book" "flagBy" "[I") (List.mem_cons_of_mem _ (List.mem_append_left _ (List.mem_of_getElem? (i := 2) rfl)))) dX1_standingFor_44 ?_
    refine lv_iload_n hx hb dX1_standingFor_47 rfl (lv_at hl 2 rfl) ?_
    refine lv_bipush (v := 6) hx hb dX1_standingFor_48 (by decide +kernel) ?_
    refine lv_imul hx hb dX1_standingFor_50 ?_
    refine lv_topi (fun x6 ex6 => ?_)
    have tx6 := ti_mul (a := w1.toInt) (b := 6) ex6 rfl (by decide +kernel) (by omega) (by omega)
    refine lv_iload_n hx hb dX1_standingFor_51 rfl (lv_at hl 3 rfl) ?_
    refine lv_iadd hx hb dX1_standingFor_52 ?_
    refine lv_topi (fun x7 ex7 => ?_)
    have tx7 := ti_add (a := (w1.toInt * 6)) (b := w2.toInt) ex7 tx6 rfl (by omega) (by omega)
    refine xlB_120 hx hb hK hP (vp_in_iff.mpr (by have h9 : x7.toInt = ((w1.toInt * 6) + w2.toInt) := tx7; omega)) dX1_standingFor_53 (fun x8 ex8 => ?_)
    have rx8 : x8.toInt = -9 ∨ (0 ≤ x8.toInt ∧ x8.toInt ≤ 199) := by rw [ex8]; exact hI.2 120 _
    refine lv_goto (tgt := 72) hx hb dX1_standingFor_54 (by decide +kernel) ?_
    exact ro_iret hx hb hr hlocks hS dX1_standingFor_72 ⟨(show x8.toInt = -9 ∨ (0 ≤ x8.toInt ∧ x8.toInt ≤ 199) from by omega), (show x8 = sFv (c 118) (c 119) (c 120) (c 121) f.toInt w1.toInt w2.toInt w3.toInt from by unfold sFv; rw [if_neg (by omega), if_pos (by omega)]; exact (ix_n (f := c 120) (s := x7) (show (x7 : Int32).toInt = w1.toInt * 6 + w2.toInt from by omega) ex8).symm)⟩
  · refine lv_tableIn (off := 56) (tgt := 57) hx hb dX1_standingFor_1 (by omega) (by omega) (by rw [f1]; rfl) (by decide +kernel) ?_
    refine lv_aload_n hx hb dX1_standingFor_57 rfl (lv_at hl 0 rfl) ?_
    refine xgB_B_keyBy hx hb hts (fun _ h => List.mem_cons_of_mem _ (List.mem_append_right _ h)) hown hK hP (hts (.fieldLink RX1 37 "TalePlay$Book" "keyBy" "[I") (List.mem_cons_of_mem _ (List.mem_append_left _ (List.mem_of_getElem? (i := 3) rfl)))) dX1_standingFor_58 ?_
    refine lv_iload_n hx hb dX1_standingFor_61 rfl (lv_at hl 3 rfl) ?_
    refine xlB_121 hx hb hK hP (vp_in_iff.mpr (by have h9 : w2.toInt = w2.toInt := rfl; omega)) dX1_standingFor_62 (fun x9 ex9 => ?_)
    have rx9 : x9.toInt = -9 ∨ (0 ≤ x9.toInt ∧ x9.toInt ≤ 199) := by rw [ex9]; exact hI.2 121 _
    refine lv_goto (tgt := 72) hx hb dX1_standingFor_63 (by decide +kernel) ?_
    exact ro_iret hx hb hr hlocks hS dX1_standingFor_72 ⟨(show x9.toInt = -9 ∨ (0 ≤ x9.toInt ∧ x9.toInt ≤ 199) from by omega), (show x9 = sFv (c 118) (c 119) (c 120) (c 121) f.toInt w1.toInt w2.toInt w3.toInt from by unfold sFv; rw [if_neg (by omega), if_neg (by omega), if_pos (by omega)]; exact ex9)⟩

