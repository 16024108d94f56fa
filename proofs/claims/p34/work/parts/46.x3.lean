def wm_X1_isWellFormed : List Cond := .code yX1_isWellFormed cX1_isWellFormed 5 (some .boolean) :: (([.fieldLink RX1 43 "TalePlay$Book" "world" "LTalePlay$World;", .methodLink RX1 62 yX10_hasObject, .instanceMethod yX10_hasObject, .selects RX10 yX10_hasObject yX10_hasObject, .initialized RX10, .code yX10_hasObject cX10_hasObject 2 (some .boolean), .fieldLink RX10 37 "TalePlay$World" "objects" "I", .code yX11_isBelow cX11_isBelow 2 (some .boolean), .initialized RX11, .static yX11_isBelow] : List Cond) ++ wsX10 ++ wsX100)
set_option maxRecDepth 20000 in
theorem gm_X1_isWellFormed_X10_hasObject_62 : GoodIn wm_X1_isWellFormed (wsV RX1 62 RX10 yX10_hasObject wm_X10_hasObject) := goodIn_w (List.forall_mem_append.mpr ⟨List.forall_mem_cons.mpr ⟨List.mem_cons_of_mem _ (List.mem_append_left _ (List.mem_append_left _ (List.mem_of_getElem? (i := 1) rfl))), List.forall_mem_cons.mpr ⟨List.mem_cons_of_mem _ (List.mem_append_left _ (List.mem_append_left _ (List.mem_of_getElem? (i := 2) rfl))), List.forall_mem_cons.mpr ⟨List.mem_cons_of_mem _ (List.mem_append_left _ (List.mem_append_left _ (List.mem_of_getElem? (i := 3) rfl))), List.forall_mem_cons.mpr ⟨List.mem_cons_of_mem _ (List.mem_append_left _ (List.mem_append_left _ (List.mem_of_getElem? (i := 4) rfl))), (fun _ h => absurd h List.not_mem_nil)⟩⟩⟩⟩, List.forall_mem_cons.mpr ⟨List.mem_cons_of_mem _ (List.mem_append_left _ (List.mem_append_left _ (List.mem_of_getElem? (i := 5) rfl))), List.forall_mem_append.mpr ⟨List.forall_mem_cons.mpr ⟨List.mem_cons_of_mem _ (List.mem_append_left _ (List.mem_append_left _ (List.mem_of_getElem? (i := 6) rfl))), (fun _ h => absurd h List.not_mem_nil)⟩, (fun _ h => List.mem_cons_of_mem _ (List.mem_append_right _ h))⟩⟩⟩) (by decide +kernel)
set_option maxRecDepth 20000 in
theorem gm_X1_isWellFormed_X11_isBelow_68 : GoodIn wm_X1_isWellFormed wm_X11_isBelow := goodIn_w (List.forall_mem_cons.mpr ⟨List.mem_cons_of_mem _ (List.mem_append_left _ (List.mem_append_left _ (List.mem_of_getElem? (i := 7) rfl))), (fun _ h => absurd h List.not_mem_nil)⟩) (by decide +kernel)
set_option maxHeartbeats 4000000 in
set_option maxRecDepth 100000 in
theorem x_X1_isWellFormed (l : Launch) (D : va_G) (sz : Nat) (sk : Value) (a : Nat → Nat) (t : Nat → ClassId) (i : Nat → Int32) (q : Int64) (c : Nat → Nat → Int32) (d : Nat → Nat → Int64) (f : Int32) (w1 : Int32) (w2 : Int32) (w3 : Int32) (hI : xInv i c) : Met l yX1_isWellFormed wm_X1_isWellFormed ({ frames := 1, cells := 0, slots := 0, locals := 21 }) (va_Pc [.ref (a 112), .int f, .int w1, .int w2, .int w3] (yA (a 186) D sz (xwB sk a t i q c d) (xtB t))) (va_Qi (fun (r : Int32) (_ : Unit) => ((0 ≤ r.toInt ∧ r.toInt ≤ 1) ∧ (Im (r.toInt = 1) (0 ≤ f.toInt ∧ f.toInt ≤ 7 ∧ 0 ≤ w1.toInt ∧ w1.toInt < (i 111).toInt ∧ (f.toInt = 6 → 0 ≤ w2.toInt ∧ w2.toInt ≤ 5 ∧ 0 ≤ w3.toInt ∧ w3.toInt ≤ 1) ∧ (¬ f.toInt = 6 → 0 ≤ w2.toInt ∧ w2.toInt < (i 111).toInt) ∧ (f.toInt = 5 → 0 ≤ w3.toInt ∧ w3.toInt ≤ 9))))) oA (ro sz)) 0 0 (ro sz) := by
  refine Met.ofW (cc := cX1_isWellFormed) (maxL := 5) (ret := (some .boolean)) (by decide +kernel) rfl ?_
  intro p e s m args below meth cd s₁ B hml hv
  obtain ⟨rfl, ⟨hsz, hP, hK⟩, hN, hZ⟩ := hv
  have hx := B.exec
  have hb := B.bytes
  have hr := B.returns
  have hts := atoms_spec (ws := wm_X1_isWellFormed) B.pre
  have hown : s.vm.findClass RX1 = some m.cls := findClass_of_methodNamed B.named
  have hlocks := B.notSynchronized
  subst hsz
  have hA : ∀ q : Nat, s.heap.size ≤ q → ro s.heap.size q := fun _ h => h
  have hS : va_S (ro s.heap.size) s.heap s.heap [] := va_S.rf
  have hl := lv_entry ([.ref (a 112), .int f, .int w1, .int w2, .int w3]) (n := 5) (Nat.le_of_ble_eq_true rfl)
  rw [lg_entry_eq]
  generalize (lg_sl ([.ref (a 112), .int f, .int w1, .int w2, .int w3]) ++ List.replicate (5 - (lg_sl ([.ref (a 112), .int f, .int w1, .int w2, .int w3])).length) Slot.unset).toArray = ls at hl ⊢
  have hl : lv_has ls 5 [(0, .ref (a 112)), (1, .int f), (2, .int w1), (3, .int w2), (4, .int w3)] := hl
  refine lv_iload_n hx hb dX1_isWellFormed_0 rfl (lv_at hl 1 rfl) ?_
  refine lv_if_lt (tgt := 21) hx hb dX1_isWellFormed_1 (by decide +kernel) (fun c1 => ?_) (fun c1 => ?_)
  · have f1 := (ti_lt (a := f.toInt) (b := 0) rfl (by decide +kernel)).mp c1
    refine lv_iconst (v := 0) hx hb dX1_isWellFormed_21 (by decide +kernel) ?_
    exact ro_zret hx hb hr hlocks hS rfl dX1_isWellFormed_22 ⟨(show 0 ≤ (0 : Int32).toInt ∧ (0 : Int32).toInt ≤ 1 from by decide +kernel), (show Im ((0 : Int32).toInt = 1) (0 ≤ f.toInt ∧ f.toInt ≤ 7 ∧ 0 ≤ w1.toInt ∧ w1.toInt < (i 111).toInt ∧ (f.toInt = 6 → 0 ≤ w2.toInt ∧ w2.toInt ≤ 5 ∧ 0 ≤ w3.toInt ∧ w3.toInt ≤ 1) ∧ (¬ f.toInt = 6 → 0 ≤ w2.toInt ∧ w2.toInt < (i 111).toInt) ∧ (f.toInt = 5 → 0 ≤ w3.toInt ∧ w3.toInt ≤ 9)) from fun h9 => absurd h9 (by decide +kernel))⟩
  · have f1 := mt (ti_lt (a := f.toInt) (b := 0) rfl (by decide +kernel)).mpr c1
    refine lv_iload_n hx hb dX1_isWellFormed_4 rfl (lv_at hl 1 rfl) ?_
    refine lv_bipush (v := 7) hx hb dX1_isWellFormed_5 (by decide +kernel) ?_
    refine lv_icmp_gt (tgt := 21) hx hb dX1_isWellFormed_7 (by decide +kernel) (fun c2 => ?_) (fun c2 => ?_)
    · have f2 := (ti_lt (a := 7) (b := f.toInt) (by decide +kernel) rfl).mp c2
      refine lv_iconst (v := 0) hx hb dX1_isWellFormed_21 (by decide +kernel) ?_
      exact ro_zret hx hb hr hlocks hS rfl dX1_isWellFormed_22 ⟨(show 0 ≤ (0 : Int32).toInt ∧ (0 : Int32).toInt ≤ 1 from by decide +kernel), (show Im ((0 : Int32).toInt = 1) (0 ≤ f.toInt ∧ f.toInt ≤ 7 ∧ 0 ≤ w1.toInt ∧ w1.toInt < (i 111).toInt ∧ (f.toInt = 6 → 0 ≤ w2.toInt ∧ w2.toInt ≤ 5 ∧ 0 ≤ w3.toInt ∧ w3.toInt ≤ 1) ∧ (¬ f.toInt = 6 → 0 ≤ w2.toInt ∧ w2.toInt < (i 111).toInt) ∧ (f.toInt = 5 → 0 ≤ w3.toInt ∧ w3.toInt ≤ 9)) from fun h9 => absurd h9 (by decide +kernel))⟩
    · have f2 := mt (ti_lt (a := 7) (b := f.toInt) (by decide +kernel) rfl).mpr c2
      refine lv_aload_n hx hb dX1_isWellFormed_10 rfl (lv_at hl 0 rfl) ?_
      refine xgB_B_world hx hb hts (fun _ h => List.mem_cons_of_mem _ (List.mem_append_left _ (List.mem_append_right _ h))) hown hK hP (hts (.fieldLink RX1 43 "TalePlay$Book" "world" "LTalePlay$World;") (List.mem_cons_of_mem _ (List.mem_append_left _ (List.mem_append_left _ (List.mem_of_getElem? (i := 0) rfl))))) dX1_isWellFormed_11 ?_
      refine lv_iload_n hx hb dX1_isWellFormed_14 rfl (lv_at hl 2 rfl) ?_
      have rb111_i : 0 ≤ (i 111).toInt ∧ (i 111).toInt ≤ 30 := hI.1 111
      refine ro_calli (va_runV (As := [.int w1]) (rest := []) ⟨hx, hb, hml, hown, hts⟩ (x_X10_hasObject l D s.heap.size .null a t i q c d w1 hI ) (cwV 1 hts gm_X1_isWellFormed_X10_hasObject_62 rfl rfl rfl (by decide +kernel) ⟨Nat.le_of_ble_eq_true rfl, Nat.le_of_ble_eq_true rfl⟩) (yA_V hN (xZ_k hZ hS hA) (xkB_W hK) (xuB_W (sk := sk) hP) (ci := 10) (q0 := 0) rfl rfl) rfl rfl hl.1 rfl (lv_room (Nat.le_of_ble_eq_true rfl)) dX1_isWellFormed_15 ⟨Nat.le_of_ble_eq_true rfl, Nat.le_of_ble_eq_true rfl⟩) hS hA hP (fun r3 u3 H locs hw3 hP hS => ?_)
      have hw3 : r3 = if (0 ≤ w1.toInt ∧ w1.toInt < (i 111).toInt) then 1 else 0 := hw3
      refine lv_if_ne (tgt := 23) hx hb dX1_isWellFormed_18 (by decide +kernel) (fun c4 => ?_) (fun c4 => ?_)
      · have f4 := fl_t hw3 c4
        refine lv_iload_n hx hb dX1_isWellFormed_23 rfl (lv_at hl 1 rfl) ?_
        refine lv_bipush (v := 6) hx hb dX1_isWellFormed_24 (by decide +kernel) ?_
        refine lv_icmp_ne (tgt := 55) hx hb dX1_isWellFormed_26 (by decide +kernel) (fun c5 => ?_) (fun c5 => ?_)
        · have f5 := mt (ti_eq (a := f.toInt) (b := 6) rfl (by decide +kernel)).mpr c5
          refine lv_aload_n hx hb dX1_isWellFormed_55 rfl (lv_at hl 0 rfl) ?_
          refine xgB_B_world hx hb hts (fun _ h => List.mem_cons_of_mem _ (List.mem_append_left _ (List.mem_append_right _ h))) hown hK hP (hts (.fieldLink RX1 43 "TalePlay$Book" "world" "LTalePlay$World;") (List.mem_cons_of_mem _ (List.mem_append_left _ (List.mem_append_left _ (List.mem_of_getElem? (i := 0) rfl))))) dX1_isWellFormed_56 ?_
          refine lv_iload_n hx hb dX1_isWellFormed_59 rfl (lv_at hl 3 rfl) ?_
          refine ro_calli (va_runV (As := [.int w2]) (rest := []) ⟨hx, hb, hml, hown, hts⟩ (x_X10_hasObject l D H.size .null a t i q c d w2 hI ) (cwV 1 hts gm_X1_isWellFormed_X10_hasObject_62 rfl rfl rfl (by decide +kernel) ⟨Nat.le_of_ble_eq_true rfl, Nat.le_of_ble_eq_true rfl⟩) (yA_V hN (xZ_k hZ hS hA) (xkB_W hK) (xuB_W (sk := sk) hP) (ci := 10) (q0 := 0) rfl rfl) rfl rfl hl.1 rfl (lv_room (Nat.le_of_ble_eq_true rfl)) dX1_isWellFormed_60 ⟨Nat.le_of_ble_eq_true rfl, Nat.le_of_ble_eq_true rfl⟩) hS hA hP (fun r6 u6 H locs hw6 hP hS => ?_)
          have hw6 : r6 = if (0 ≤ w2.toInt ∧ w2.toInt < (i 111).toInt) then 1 else 0 := hw6
          refine lv_if_eq (tgt := 85) hx hb dX1_isWellFormed_63 (by decide +kernel) (fun c7 => ?_) (fun c7 => ?_)
          · have f7 := fl_f hw6 c7
            refine lv_iconst (v := 0) hx hb dX1_isWellFormed_85 (by decide +kernel) ?_
            exact ro_zret hx hb hr hlocks hS rfl dX1_isWellFormed_86 ⟨(show 0 ≤ (0 : Int32).toInt ∧ (0 : Int32).toInt ≤ 1 from by decide +kernel), (show Im ((0 : Int32).toInt = 1) (0 ≤ f.toInt ∧ f.toInt ≤ 7 ∧ 0 ≤ w1.toInt ∧ w1.toInt < (i 111).toInt ∧ (f.toInt = 6 → 0 ≤ w2.toInt ∧ w2.toInt ≤ 5 ∧ 0 ≤ w3.toInt ∧ w3.toInt ≤ 1) ∧ (¬ f.toInt = 6 → 0 ≤ w2.toInt ∧ w2.toInt < (i 111).toInt) ∧ (f.toInt = 5 → 0 ≤ w3.toInt ∧ w3.toInt ≤ 9)) from fun h9 => absurd h9 (by decide +kernel))⟩
          · have f7 := fl_t hw6 c7
            refine lv_iload_n hx hb dX1_isWellFormed_66 rfl (lv_at hl 1 rfl) ?_
            refine lv_iconst (v := 5) hx hb dX1_isWellFormed_67 (by decide +kernel) ?_
            refine lv_icmp_ne (tgt := 81) hx hb dX1_isWellFormed_68 (by decide +kernel) (fun c8 => ?_) (fun c8 => ?_)
            · have f8 := mt (ti_eq (a := f.toInt) (b := 5) rfl (by decide +kernel)).mpr c8
              refine lv_iconst (v := 1) hx hb dX1_isWellFormed_81 (by decide +kernel) ?_
              refine lv_goto (tgt := 86) hx hb dX1_isWellFormed_82 (by decide +kernel) ?_
              exact ro_zret hx hb hr hlocks hS rfl dX1_isWellFormed_86 ⟨(show 0 ≤ (1 : Int32).toInt ∧ (1 : Int32).toInt ≤ 1 from by decide +kernel), (show Im ((1 : Int32).toInt = 1) (0 ≤ f.toInt ∧ f.toInt ≤ 7 ∧ 0 ≤ w1.toInt ∧ w1.toInt < (i 111).toInt ∧ (f.toInt = 6 → 0 ≤ w2.toInt ∧ w2.toInt ≤ 5 ∧ 0 ≤ w3.toInt ∧ w3.toInt ≤ 1) ∧ (¬ f.toInt = 6 → 0 ≤ w2.toInt ∧ w2.toInt < (i 111).toInt) ∧ (f.toInt = 5 → 0 ≤ w3.toInt ∧ w3.toInt ≤ 9)) from fun _ => by omega)⟩
            · have f8 := (ti_eq (a := f.toInt) (b := 5) rfl (by decide +kernel)).mp c8
              refine lv_iload hx hb dX1_isWellFormed_71 (lv_at hl 4 rfl) ?_
              refine lv_bipush (v := 10) hx hb dX1_isWellFormed_73 (by decide +kernel) ?_
              have hNn9 := hN.2.2.1
              have hPc := hP.sub (ws' := []) [] rfl
              have hKc := hK.sub (tys' := []) [] rfl
              refine ro_calli (va_runSN (As := [.int w3, .int 10]) (rest := []) ⟨hx, hb, hml, hown, hts⟩ (c_X11_isBelow l D H.size w3 10 w3.toInt 10 rfl (by decide +kernel)) ⟨va_cnB 2 hts gm_X1_isWellFormed_X11_isBelow_68 rfl rfl rfl hNn9 (hts (.initialized RX11) (List.mem_cons_of_mem _ (List.mem_append_left _ (List.mem_append_left _ (List.mem_of_getElem? (i := 8) rfl))))) (by decide +kernel) ⟨Nat.le_of_ble_eq_true rfl, Nat.le_of_ble_eq_true rfl⟩, (hts (.static yX11_isBelow) (List.mem_cons_of_mem _ (List.mem_append_left _ (List.mem_append_left _ (List.mem_of_getElem? (i := 9) rfl))))), trivial⟩ (pA_S hKc hPc) rfl rfl hl.1 rfl (lv_room (Nat.le_of_ble_eq_true rfl)) dX1_isWellFormed_75 ⟨Nat.le_of_ble_eq_true rfl, Nat.le_of_ble_eq_true rfl⟩) hS hA hP (fun r10 u10 H locs hw10 hP hS => ?_)
              have hw10 : r10 = if (0 ≤ w3.toInt ∧ w3.toInt < 10) then 1 else 0 := hw10
              refine lv_if_eq (tgt := 85) hx hb dX1_isWellFormed_78 (by decide +kernel) (fun c11 => ?_) (fun c11 => ?_)
              · have f11 := fl_f hw10 c11
                refine lv_iconst (v := 0) hx hb dX1_isWellFormed_85 (by decide +kernel) ?_
                exact ro_zret hx hb hr hlocks hS rfl dX1_isWellFormed_86 ⟨(show 0 ≤ (0 : Int32).toInt ∧ (0 : Int32).toInt ≤ 1 from by decide +kernel), (show Im ((0 : Int32).toInt = 1) (0 ≤ f.toInt ∧ f.toInt ≤ 7 ∧ 0 ≤ w1.toInt ∧ w1.toInt < (i 111).toInt ∧ (f.toInt = 6 → 0 ≤ w2.toInt ∧ w2.toInt ≤ 5 ∧ 0 ≤ w3.toInt ∧ w3.toInt ≤ 1) ∧ (¬ f.toInt = 6 → 0 ≤ w2.toInt ∧ w2.toInt < (i 111).toInt) ∧ (f.toInt = 5 → 0 ≤ w3.toInt ∧ w3.toInt ≤ 9)) from fun h9 => absurd h9 (by decide +kernel))⟩
              · have f11 := fl_t hw10 c11
                refine lv_iconst (v := 1) hx hb dX1_isWellFormed_81 (by decide +kernel) ?_
                refine lv_goto (tgt := 86) hx hb dX1_isWellFormed_82 (by decide +kernel) ?_
                exact ro_zret hx hb hr hlocks hS rfl dX1_isWellFormed_86 ⟨(show 0 ≤ (1 : Int32).toInt ∧ (1 : Int32).toInt ≤ 1 from by decide +kernel), (show Im ((1 : Int32).toInt = 1) (0 ≤ f.toInt ∧ f.toInt ≤ 7 ∧ 0 ≤ w1.toInt ∧ w1.toInt < (i 111).toInt ∧ (f.toInt = 6 → 0 ≤ w2.toInt ∧ w2.toInt ≤ 5 ∧ 0 ≤ w3.toInt ∧ w3.toInt ≤ 1) ∧ (¬ f.toInt = 6 → 0 ≤ w2.toInt ∧ w2.toInt < (i 111).toInt) ∧ (f.toInt = 5 → 0 ≤ w3.toInt ∧ w3.toInt ≤ 9)) from fun _ => by omega)⟩
        · have f5 := (ti_eq (a := f.toInt) (b := 6) rfl (by decide +kernel)).mp c5
          refine lv_iload_n hx hb dX1_isWellFormed_29 rfl (lv_at hl 3 rfl) ?_
          refine lv_bipush (v := 6) hx hb dX1_isWellFormed_30 (by decide +kernel) ?_
          have hNn12 := hN.2.2.1
          have hPc := hP.sub (ws' := []) [] rfl
          have hKc := hK.sub (tys' := []) [] rfl
          refine ro_calli (va_runSN (As := [.int w2, .int 6]) (rest := []) ⟨hx, hb, hml, hown, hts⟩ (c_X11_isBelow l D H.size w2 6 w2.toInt 6 rfl (by decide +kernel)) ⟨va_cnB 2 hts gm_X1_isWellFormed_X11_isBelow_68 rfl rfl rfl hNn12 (hts (.initialized RX11) (List.mem_cons_of_mem _ (List.mem_append_left _ (List.mem_append_left _ (List.mem_of_getElem? (i := 8) rfl))))) (by decide +kernel) ⟨Nat.le_of_ble_eq_true rfl, Nat.le_of_ble_eq_true rfl⟩, (hts (.static yX11_isBelow) (List.mem_cons_of_mem _ (List.mem_append_left _ (List.mem_append_left _ (List.mem_of_getElem? (i := 9) rfl))))), trivial⟩ (pA_S hKc hPc) rfl rfl hl.1 rfl (lv_room (Nat.le_of_ble_eq_true rfl)) dX1_isWellFormed_32 ⟨Nat.le_of_ble_eq_true rfl, Nat.le_of_ble_eq_true rfl⟩) hS hA hP (fun r13 u13 H locs hw13 hP hS => ?_)
          have hw13 : r13 = if (0 ≤ w2.toInt ∧ w2.toInt < 6) then 1 else 0 := hw13
          refine lv_if_eq (tgt := 53) hx hb dX1_isWellFormed_35 (by decide +kernel) (fun c14 => ?_) (fun c14 => ?_)
          · have f14 := fl_f hw13 c14
            refine lv_iconst (v := 0) hx hb dX1_isWellFormed_53 (by decide +kernel) ?_
            exact ro_zret hx hb hr hlocks hS rfl dX1_isWellFormed_54 ⟨(show 0 ≤ (0 : Int32).toInt ∧ (0 : Int32).toInt ≤ 1 from by decide +kernel), (show Im ((0 : Int32).toInt = 1) (0 ≤ f.toInt ∧ f.toInt ≤ 7 ∧ 0 ≤ w1.toInt ∧ w1.toInt < (i 111).toInt ∧ (f.toInt = 6 → 0 ≤ w2.toInt ∧ w2.toInt ≤ 5 ∧ 0 ≤ w3.toInt ∧ w3.toInt ≤ 1) ∧ (¬ f.toInt = 6 → 0 ≤ w2.toInt ∧ w2.toInt < (i 111).toInt) ∧ (f.toInt = 5 → 0 ≤ w3.toInt ∧ w3.toInt ≤ 9)) from fun h9 => absurd h9 (by decide +kernel))⟩
          · have f14 := fl_t hw13 c14
            refine lv_iload hx hb dX1_isWellFormed_38 (lv_at hl 4 rfl) ?_
            refine lv_if_eq (tgt := 49) hx hb dX1_isWellFormed_40 (by decide +kernel) (fun c15 => ?_) (fun c15 => ?_)
            · have f15 := (ti_eq (a := w3.toInt) (b := 0) rfl (by decide +kernel)).mp c15
              refine lv_iconst (v := 1) hx hb dX1_isWellFormed_49 (by decide +kernel) ?_
              refine lv_goto (tgt := 54) hx hb dX1_isWellFormed_50 (by decide +kernel) ?_
              exact ro_zret hx hb hr hlocks hS rfl dX1_isWellFormed_54 ⟨(show 0 ≤ (1 : Int32).toInt ∧ (1 : Int32).toInt ≤ 1 from by decide +kernel), (show Im ((1 : Int32).toInt = 1) (0 ≤ f.toInt ∧ f.toInt ≤ 7 ∧ 0 ≤ w1.toInt ∧ w1.toInt < (i 111).toInt ∧ (f.toInt = 6 → 0 ≤ w2.toInt ∧ w2.toInt ≤ 5 ∧ 0 ≤ w3.toInt ∧ w3.toInt ≤ 1) ∧ (¬ f.toInt = 6 → 0 ≤ w2.toInt ∧ w2.toInt < (i 111).toInt) ∧ (f.toInt = 5 → 0 ≤ w3.toInt ∧ w3.toInt ≤ 9)) from fun _ => by omega)⟩
            · have f15 := mt (ti_eq (a := w3.toInt) (b := 0) rfl (by decide +kernel)).mpr c15
              refine lv_iload hx hb dX1_isWellFormed_43 (lv_at hl 4 rfl) ?_
              refine lv_iconst (v := 1) hx hb dX1_isWellFormed_45 (by decide +kernel) ?_
              refine lv_icmp_ne (tgt := 53) hx hb dX1_isWellFormed_46 (by decide +kernel) (fun c16 => ?_) (fun c16 => ?_)
              · have f16 := mt (ti_eq (a := w3.toInt) (b := 1) rfl (by decide +kernel)).mpr c16
                refine lv_iconst (v := 0) hx hb dX1_isWellFormed_53 (by decide +kernel) ?_
                exact ro_zret hx hb hr hlocks hS rfl dX1_isWellFormed_54 ⟨(show 0 ≤ (0 : Int32).toInt ∧ (0 : Int32).toInt ≤ 1 from by decide +kernel), (show Im ((0 : Int32).toInt = 1) (0 ≤ f.toInt ∧ f.toInt ≤ 7 ∧ 0 ≤ w1.toInt ∧ w1.toInt < (i 111).toInt ∧ (f.toInt = 6 → 0 ≤ w2.toInt ∧ w2.toInt ≤ 5 ∧ 0 ≤ w3.toInt ∧ w3.toInt ≤ 1) ∧ (¬ f.toInt = 6 → 0 ≤ w2.toInt ∧ w2.toInt < (i 111).toInt) ∧ (f.toInt = 5 → 0 ≤ w3.toInt ∧ w3.toInt ≤ 9)) from fun h9 => absurd h9 (by decide +kernel))⟩
              · have f16 := (ti_eq (a := w3.toInt) (b := 1) rfl (by decide +kernel)).mp c16
                refine lv_iconst (v := 1) hx hb dX1_isWellFormed_49 (by decide +kernel) ?_
                refine lv_goto (tgt := 54) hx hb dX1_isWellFormed_50 (by decide +kernel) ?_
                exact ro_zret hx hb hr hlocks hS rfl dX1_isWellFormed_54 ⟨(show 0 ≤ (1 : Int32).toInt ∧ (1 : Int32).toInt ≤ 1 from by decide +kernel), (show Im ((1 : Int32).toInt = 1) (0 ≤ f.toInt ∧ f.toInt ≤ 7 ∧ 0 ≤ w1.toInt ∧ w1.toInt < (i 111).toInt ∧ (f.toInt = 6 → 0 ≤ w2.toInt ∧ w2.toInt ≤ 5 ∧ 0 ≤ w3.toInt ∧ w3.toInt ≤ 1) ∧ (¬ f.toInt = 6 → 0 ≤ w2.toInt ∧ w2.toInt < (i 111).toInt) ∧ (f.toInt = 5 → 0 ≤ w3.toInt ∧ w3.toInt ≤ 9)) from fun _ => by omega)⟩
      · have f4 := fl_f hw3 c4
        refine lv_iconst (v := 0) hx hb dX1_isWellFormed_21 (by decide +kernel) ?_
        exact ro_zret hx hb hr hlocks hS rfl dX1_isWellFormed_22 ⟨(show 0 ≤ (0 : Int32).toInt ∧ (0 : Int32).toInt ≤ 1 from by decide +kernel), (show Im ((0 : Int32).toInt = 1) (0 ≤ f.toInt ∧ f.toInt ≤ 7 ∧ 0 ≤ w1.toInt ∧ w1.toInt < (i 111).toInt ∧ (f.toInt = 6 → 0 ≤ w2.toInt ∧ w2.toInt ≤ 5 ∧ 0 ≤ w3.toInt ∧ w3.toInt ≤ 1) ∧ (¬ f.toInt = 6 → 0 ≤ w2.toInt ∧ w2.toInt < (i 111).toInt) ∧ (f.toInt = 5 → 0 ≤ w3.toInt ∧ w3.toInt ≤ 9)) from fun h9 => absurd h9 (by decide +kernel))⟩

def wm_X1_isFitting : List Cond := .code yX1_isFitting cX1_isFitting 5 (some .boolean) :: ((([.fieldLink RX1 43 "TalePlay$Book" "world" "LTalePlay$World;", .methodLink RX1 72 yX10_sortOf, .instanceMethod yX10_sortOf, .selects RX10 yX10_sortOf yX10_sortOf, .initialized RX10, .code yX10_sortOf cX10_sortOf 2 (some .int), .fieldLink RX10 37 "TalePlay$World" "objects" "I", .fieldLink RX10 15 "TalePlay$World" "sorts" "[I", .fieldLink RX10 21 "TalePlay$World" "kindOf" "[I", .methodLink RX1 79 yX10_isGoods, .instanceMethod yX10_isGoods, .selects RX10 yX10_isGoods yX10_isGoods, .code yX10_isGoods cX10_isGoods 2 (some .boolean), .methodLink RX10 44 yX10_isMovable, .instanceMethod yX10_isMovable, .selects RX10 yX10_isMovable yX10_isMovable] : List Cond) ++ ([.code yX10_isMovable cX10_isMovable 3 (some .boolean), .methodLink RX10 40 yX10_sortOf, .methodLink RX1 85 yX10_isShutter, .instanceMethod yX10_isShutter, .selects RX10 yX10_isShutter yX10_isShutter, .code yX10_isShutter cX10_isShutter 3 (some .boolean), .methodLink RX1 76 yX10_isMovable, .methodLink RX1 82 yX10_canHave, .instanceMethod yX10_canHave, .selects RX10 yX10_canHave yX10_canHave, .code yX10_canHave cX10_canHave 3 (some .boolean), .methodLink RX10 48 yX10_isShutter, .methodLink RX10 51 yX10_isGoods] : List Cond)) ++ wsX10 ++ wsX100)
set_option maxRecDepth 20000 in
theorem gm_X1_isFitting_X10_sortOf_72 : GoodIn wm_X1_isFitting (wsV RX1 72 RX10 yX10_sortOf wm_X10_sortOf) := goodIn_w (List.forall_mem_append.mpr ⟨List.forall_mem_cons.mpr ⟨List.mem_cons_of_mem _ (List.mem_append_left _ (List.mem_append_left _ (List.mem_append_left _ (List.mem_of_getElem? (i := 1) rfl)))), List.forall_mem_cons.mpr ⟨List.mem_cons_of_mem _ (List.mem_append_left _ (List.mem_append_left _ (List.mem_append_left _ (List.mem_of_getElem? (i := 2) rfl)))), List.forall_mem_cons.mpr ⟨List.mem_cons_of_mem _ (List.mem_append_left _ (List.mem_append_left _ (List.mem_append_left _ (List.mem_of_getElem? (i := 3) rfl)))), List.forall_mem_cons.mpr ⟨List.mem_cons_of_mem _ (List.mem_append_left _ (List.mem_append_left _ (List.mem_append_left _ (List.mem_of_getElem? (i := 4) rfl)))), (fun _ h => absurd h List.not_mem_nil)⟩⟩⟩⟩, List.forall_mem_cons.mpr ⟨List.mem_cons_of_mem _ (List.mem_append_left _ (List.mem_append_left _ (List.mem_append_left _ (List.mem_of_getElem? (i := 5) rfl)))), List.forall_mem_append.mpr ⟨List.forall_mem_cons.mpr ⟨List.mem_cons_of_mem _ (List.mem_append_left _ (List.mem_append_left _ (List.mem_append_left _ (List.mem_of_getElem? (i := 6) rfl)))), List.forall_mem_cons.mpr ⟨List.mem_cons_of_mem _ (List.mem_append_left _ (List.mem_append_left _ (List.mem_append_left _ (List.mem_of_getElem? (i := 7) rfl)))), List.forall_mem_cons.mpr ⟨List.mem_cons_of_mem _ (List.mem_append_left _ (List.mem_append_left _ (List.mem_append_left _ (List.mem_of_getElem? (i := 8) rfl)))), (fun _ h => absurd h List.not_mem_nil)⟩⟩⟩, (fun _ h => List.mem_cons_of_mem _ (List.mem_append_right _ h))⟩⟩⟩) (by decide +kernel)
set_option maxRecDepth 20000 in
theorem gm_X1_isFitting_X10_isGoods_79 : GoodIn wm_X1_isFitting (wsV RX1 79 RX10 yX10_isGoods wm_X10_isGoods) := goodIn_w (List.forall_mem_append.mpr ⟨List.forall_mem_cons.mpr ⟨List.mem_cons_of_mem _ (List.mem_append_left _ (List.mem_append_left _ (List.mem_append_left _ (List.mem_of_getElem? (i := 9) rfl)))), List.forall_mem_cons.mpr ⟨List.mem_cons_of_mem _ (List.mem_append_left _ (List.mem_append_left _ (List.mem_append_left _ (List.mem_of_getElem? (i := 10) rfl)))), List.forall_mem_cons.mpr ⟨List.mem_cons_of_mem _ (List.mem_append_left _ (List.mem_append_left _ (List.mem_append_left _ (List.mem_of_getElem? (i := 11) rfl)))), List.forall_mem_cons.mpr ⟨List.mem_cons_of_mem _ (List.mem_append_left _ (List.mem_append_left _ (List.mem_append_left _ (List.mem_of_getElem? (i := 4) rfl)))), (fun _ h => absurd h List.not_mem_nil)⟩⟩⟩⟩, List.forall_mem_cons.mpr ⟨List.mem_cons_of_mem _ (List.mem_append_left _ (List.mem_append_left _ (List.mem_append_left _ (List.mem_of_getElem? (i := 12) rfl)))), List.forall_mem_append.mpr ⟨List.forall_mem_cons.mpr ⟨List.mem_cons_of_mem _ (List.mem_append_left _ (List.mem_append_left _ (List.mem_append_left _ (List.mem_of_getElem? (i := 13) rfl)))), List.forall_mem_cons.mpr ⟨List.mem_cons_of_mem _ (List.mem_append_left _ (List.mem_append_left _ (List.mem_append_left _ (List.mem_of_getElem? (i := 14) rfl)))), List.forall_mem_cons.mpr ⟨List.mem_cons_of_mem _ (List.mem_append_left _ (List.mem_append_left _ (List.mem_append_left _ (List.mem_of_getElem? (i := 15) rfl)))), List.forall_mem_cons.mpr ⟨List.mem_cons_of_mem _ (List.mem_append_left _ (List.mem_append_left _ (List.mem_append_left _ (List.mem_of_getElem? (i := 4) rfl)))), List.forall_mem_cons.mpr ⟨List.mem_cons_of_mem _ (List.mem_append_left _ (List.mem_append_left _ (List.mem_append_right _ (List.mem_of_getElem? (i := 0) rfl)))), List.forall_mem_cons.mpr ⟨List.mem_cons_of_mem _ (List.mem_append_left _ (List.mem_append_left _ (List.mem_append_right _ (List.mem_of_getElem? (i := 1) rfl)))), List.forall_mem_cons.mpr ⟨List.mem_cons_of_mem _ (List.mem_append_left _ (List.mem_append_left _ (List.mem_append_left _ (List.mem_of_getElem? (i := 2) rfl)))), List.forall_mem_cons.mpr ⟨List.mem_cons_of_mem _ (List.mem_append_left _ (List.mem_append_left _ (List.mem_append_left _ (List.mem_of_getElem? (i := 3) rfl)))), List.forall_mem_cons.mpr ⟨List.mem_cons_of_mem _ (List.mem_append_left _ (List.mem_append_left _ (List.mem_append_left _ (List.mem_of_getElem? (i := 5) rfl)))), List.forall_mem_cons.mpr ⟨List.mem_cons_of_mem _ (List.mem_append_left _ (List.mem_append_left _ (List.mem_append_left _ (List.mem_of_getElem? (i := 6) rfl)))), List.forall_mem_cons.mpr ⟨List.mem_cons_of_mem _ (List.mem_append_left _ (List.mem_append_left _ (List.mem_append_left _ (List.mem_of_getElem? (i := 7) rfl)))), List.forall_mem_cons.mpr ⟨List.mem_cons_of_mem _ (List.mem_append_left _ (List.mem_append_left _ (List.mem_append_left _ (List.mem_of_getElem? (i := 8) rfl)))), (fun _ h => absurd h List.not_mem_nil)⟩⟩⟩⟩⟩⟩⟩⟩⟩⟩⟩⟩, (fun _ h => List.mem_cons_of_mem _ (List.mem_append_right _ h))⟩⟩⟩) (by decide +kernel)
set_option maxRecDepth 20000 in
theorem gm_X1_isFitting_X10_isShutter_85 : GoodIn wm_X1_isFitting (wsV RX1 85 RX10 yX10_isShutter wm_X10_isShutter) := goodIn_w (List.forall_mem_append.mpr ⟨List.forall_mem_cons.mpr ⟨List.mem_cons_of_mem _ (List.mem_append_left _ (List.mem_append_left _ (List.mem_append_right _ (List.mem_of_getElem? (i := 2) rfl)))), List.forall_mem_cons.mpr ⟨List.mem_cons_of_mem _ (List.mem_append_left _ (List.mem_append_left _ (List.mem_append_right _ (List.mem_of_getElem? (i := 3) rfl)))), List.forall_mem_cons.mpr ⟨List.mem_cons_of_mem _ (List.mem_append_left _ (List.mem_append_left _ (List.mem_append_right _ (List.mem_of_getElem? (i := 4) rfl)))), List.forall_mem_cons.mpr ⟨List.mem_cons_of_mem _ (List.mem_append_left _ (List.mem_append_left _ (List.mem_append_left _ (List.mem_of_getElem? (i := 4) rfl)))), (fun _ h => absurd h List.not_mem_nil)⟩⟩⟩⟩, List.forall_mem_cons.mpr ⟨List.mem_cons_of_mem _ (List.mem_append_left _ (List.mem_append_left _ (List.mem_append_right _ (List.mem_of_getElem? (i := 5) rfl)))), List.forall_mem_append.mpr ⟨List.forall_mem_cons.mpr ⟨List.mem_cons_of_mem _ (List.mem_append_left _ (List.mem_append_left _ (List.mem_append_right _ (List.mem_of_getElem? (i := 1) rfl)))), List.forall_mem_cons.mpr ⟨List.mem_cons_of_mem _ (List.mem_append_left _ (List.mem_append_left _ (List.mem_append_left _ (List.mem_of_getElem? (i := 2) rfl)))), List.forall_mem_cons.mpr ⟨List.mem_cons_of_mem _ (List.mem_append_left _ (List.mem_append_left _ (List.mem_append_left _ (List.mem_of_getElem? (i := 3) rfl)))), List.forall_mem_cons.mpr ⟨List.mem_cons_of_mem _ (List.mem_append_left _ (List.mem_append_left _ (List.mem_append_left _ (List.mem_of_getElem? (i := 4) rfl)))), List.forall_mem_cons.mpr ⟨List.mem_cons_of_mem _ (List.mem_append_left _ (List.mem_append_left _ (List.mem_append_left _ (List.mem_of_getElem? (i := 5) rfl)))), List.forall_mem_cons.mpr ⟨List.mem_cons_of_mem _ (List.mem_append_left _ (List.mem_append_left _ (List.mem_append_left _ (List.mem_of_getElem? (i := 6) rfl)))), List.forall_mem_cons.mpr ⟨List.mem_cons_of_mem _ (List.mem_append_left _ (List.mem_append_left _ (List.mem_append_left _ (List.mem_of_getElem? (i := 7) rfl)))), List.forall_mem_cons.mpr ⟨List.mem_cons_of_mem _ (List.mem_append_left _ (List.mem_append_left _ (List.mem_append_left _ (List.mem_of_getElem? (i := 8) rfl)))), (fun _ h => absurd h List.not_mem_nil)⟩⟩⟩⟩⟩⟩⟩⟩, (fun _ h => List.mem_cons_of_mem _ (List.mem_append_right _ h))⟩⟩⟩) (by decide +kernel)
set_option maxRecDepth 20000 in
theorem gm_X1_isFitting_X10_isMovable_76 : GoodIn wm_X1_isFitting (wsV RX1 76 RX10 yX10_isMovable wm_X10_isMovable) := goodIn_w (List.forall_mem_append.mpr ⟨List.forall_mem_cons.mpr ⟨List.mem_cons_of_mem _ (List.mem_append_left _ (List.mem_append_left _ (List.mem_append_right _ (List.mem_of_getElem? (i := 6) rfl)))), List.forall_mem_cons.mpr ⟨List.mem_cons_of_mem _ (List.mem_append_left _ (List.mem_append_left _ (List.mem_append_left _ (List.mem_of_getElem? (i := 14) rfl)))), List.forall_mem_cons.mpr ⟨List.mem_cons_of_mem _ (List.mem_append_left _ (List.mem_append_left _ (List.mem_append_left _ (List.mem_of_getElem? (i := 15) rfl)))), List.forall_mem_cons.mpr ⟨List.mem_cons_of_mem _ (List.mem_append_left _ (List.mem_append_left _ (List.mem_append_left _ (List.mem_of_getElem? (i := 4) rfl)))), (fun _ h => absurd h List.not_mem_nil)⟩⟩⟩⟩, List.forall_mem_cons.mpr ⟨List.mem_cons_of_mem _ (List.mem_append_left _ (List.mem_append_left _ (List.mem_append_right _ (List.mem_of_getElem? (i := 0) rfl)))), List.forall_mem_append.mpr ⟨List.forall_mem_cons.mpr ⟨List.mem_cons_of_mem _ (List.mem_append_left _ (List.mem_append_left _ (List.mem_append_right _ (List.mem_of_getElem? (i := 1) rfl)))), List.forall_mem_cons.mpr ⟨List.mem_cons_of_mem _ (List.mem_append_left _ (List.mem_append_left _ (List.mem_append_left _ (List.mem_of_getElem? (i := 2) rfl)))), List.forall_mem_cons.mpr ⟨List.mem_cons_of_mem _ (List.mem_append_left _ (List.mem_append_left _ (List.mem_append_left _ (List.mem_of_getElem? (i := 3) rfl)))), List.forall_mem_cons.mpr ⟨List.mem_cons_of_mem _ (List.mem_append_left _ (List.mem_append_left _ (List.mem_append_left _ (List.mem_of_getElem? (i := 4) rfl)))), List.forall_mem_cons.mpr ⟨List.mem_cons_of_mem _ (List.mem_append_left _ (List.mem_append_left _ (List.mem_append_left _ (List.mem_of_getElem? (i := 5) rfl)))), List.forall_mem_cons.mpr ⟨List.mem_cons_of_mem _ (List.mem_append_left _ (List.mem_append_left _ (List.mem_append_left _ (List.mem_of_getElem? (i := 6) rfl)))), List.forall_mem_cons.mpr ⟨List.mem_cons_of_mem _ (List.mem_append_left _ (List.mem_append_left _ (List.mem_append_left _ (List.mem_of_getElem? (i := 7) rfl)))), List.forall_mem_cons.mpr ⟨List.mem_cons_of_mem _ (List.mem_append_left _ (List.mem_append_left _ (List.mem_append_left _ (List.mem_of_getElem? (i := 8) rfl)))), (fun _ h => absurd h List.not_mem_nil)⟩⟩⟩⟩⟩⟩⟩⟩, (fun _ h => List.mem_cons_of_mem _ (List.mem_append_right _ h))⟩⟩⟩) (by decide +kernel)
set_option maxRecDepth 20000 in
theorem gm_X1_isFitting_X10_canHave_82 : GoodIn wm_X1_isFitting (wsV RX1 82 RX10 yX10_canHave wm_X10_canHave) := goodIn_w (List.forall_mem_append.mpr ⟨List.forall_mem_cons.mpr ⟨List.mem_cons_of_mem _ (List.mem_append_left _ (List.mem_append_left _ (List.mem_append_right _ (List.mem_of_getElem? (i := 7) rfl)))), List.forall_mem_cons.mpr ⟨List.mem_cons_of_mem _ (List.mem_append_left _ (List.mem_append_left _ (List.mem_append_right _ (List.mem_of_getElem? (i := 8) rfl)))), List.forall_mem_cons.mpr ⟨List.mem_cons_of_mem _ (List.mem_append_left _ (List.mem_append_left _ (List.mem_append_right _ (List.mem_of_getElem? (i := 9) rfl)))), List.forall_mem_cons.mpr ⟨List.mem_cons_of_mem _ (List.mem_append_left _ (List.mem_append_left _ (List.mem_append_left _ (List.mem_of_getElem? (i := 4) rfl)))), (fun _ h => absurd h List.not_mem_nil)⟩⟩⟩⟩, List.forall_mem_cons.mpr ⟨List.mem_cons_of_mem _ (List.mem_append_left _ (List.mem_append_left _ (List.mem_append_right _ (List.mem_of_getElem? (i := 10) rfl)))), List.forall_mem_append.mpr ⟨List.forall_mem_append.mpr ⟨List.forall_mem_cons.mpr ⟨List.mem_cons_of_mem _ (List.mem_append_left _ (List.mem_append_left _ (List.mem_append_right _ (List.mem_of_getElem? (i := 11) rfl)))), List.forall_mem_cons.mpr ⟨List.mem_cons_of_mem _ (List.mem_append_left _ (List.mem_append_left _ (List.mem_append_right _ (List.mem_of_getElem? (i := 3) rfl)))), List.forall_mem_cons.mpr ⟨List.mem_cons_of_mem _ (List.mem_append_left _ (List.mem_append_left _ (List.mem_append_right _ (List.mem_of_getElem? (i := 4) rfl)))), List.forall_mem_cons.mpr ⟨List.mem_cons_of_mem _ (List.mem_append_left _ (List.mem_append_left _ (List.mem_append_left _ (List.mem_of_getElem? (i := 4) rfl)))), List.forall_mem_cons.mpr ⟨List.mem_cons_of_mem _ (List.mem_append_left _ (List.mem_append_left _ (List.mem_append_right _ (List.mem_of_getElem? (i := 5) rfl)))), List.forall_mem_cons.mpr ⟨List.mem_cons_of_mem _ (List.mem_append_left _ (List.mem_append_left _ (List.mem_append_right _ (List.mem_of_getElem? (i := 1) rfl)))), List.forall_mem_cons.mpr ⟨List.mem_cons_of_mem _ (List.mem_append_left _ (List.mem_append_left _ (List.mem_append_left _ (List.mem_of_getElem? (i := 2) rfl)))), List.forall_mem_cons.mpr ⟨List.mem_cons_of_mem _ (List.mem_append_left _ (List.mem_append_left _ (List.mem_append_left _ (List.mem_of_getElem? (i := 3) rfl)))), List.forall_mem_cons.mpr ⟨List.mem_cons_of_mem _ (List.mem_append_left _ (List.mem_append_left _ (List.mem_append_left _ (List.mem_of_getElem? (i := 5) rfl)))), List.forall_mem_cons.mpr ⟨List.mem_cons_of_mem _ (List.mem_append_left _ (List.mem_append_left _ (List.mem_append_left _ (List.mem_of_getElem? (i := 6) rfl)))), List.forall_mem_cons.mpr ⟨List.mem_cons_of_mem _ (List.mem_append_left _ (List.mem_append_left _ (List.mem_append_left _ (List.mem_of_getElem? (i := 7) rfl)))), List.forall_mem_cons.mpr ⟨List.mem_cons_of_mem _ (List.mem_append_left _ (List.mem_append_left _ (List.mem_append_left _ (List.mem_of_getElem? (i := 8) rfl)))), List.forall_mem_cons.mpr ⟨List.mem_cons_of_mem _ (List.mem_append_left _ (List.mem_append_left _ (List.mem_append_left _ (List.mem_of_getElem? (i := 13) rfl)))), List.forall_mem_cons.mpr ⟨List.mem_cons_of_mem _ (List.mem_append_left _ (List.mem_append_left _ (List.mem_append_left _ (List.mem_of_getElem? (i := 14) rfl)))), List.forall_mem_cons.mpr ⟨List.mem_cons_of_mem _ (List.mem_append_left _ (List.mem_append_left _ (List.mem_append_left _ (List.mem_of_getElem? (i := 15) rfl)))), List.forall_mem_cons.mpr ⟨List.mem_cons_of_mem _ (List.mem_append_left _ (List.mem_append_left _ (List.mem_append_right _ (List.mem_of_getElem? (i := 0) rfl)))), (fun _ h => absurd h List.not_mem_nil)⟩⟩⟩⟩⟩⟩⟩⟩⟩⟩⟩⟩⟩⟩⟩⟩, List.forall_mem_cons.mpr ⟨List.mem_cons_of_mem _ (List.mem_append_left _ (List.mem_append_left _ (List.mem_append_right _ (List.mem_of_getElem? (i := 12) rfl)))), List.forall_mem_cons.mpr ⟨List.mem_cons_of_mem _ (List.mem_append_left _ (List.mem_append_left _ (List.mem_append_left _ (List.mem_of_getElem? (i := 10) rfl)))), List.forall_mem_cons.mpr ⟨List.mem_cons_of_mem _ (List.mem_append_left _ (List.mem_append_left _ (List.mem_append_left _ (List.mem_of_getElem? (i := 11) rfl)))), List.forall_mem_cons.mpr ⟨List.mem_cons_of_mem _ (List.mem_append_left _ (List.mem_append_left _ (List.mem_append_left _ (List.mem_of_getElem? (i := 12) rfl)))), (fun _ h => absurd h List.not_mem_nil)⟩⟩⟩⟩⟩, (fun _ h => List.mem_cons_of_mem _ (List.mem_append_right _ h))⟩⟩⟩) (by decide +kernel)
set_option maxHeartbeats 4000000 in
set_option maxRecDepth 100000 in
theorem x_X1_isFitting (l : Launch) (D : va_G) (sz : Nat) (sk : Value) (a : Nat → Nat) (t : Nat → ClassId) (i : Nat → Int32) (q : Int64) (c : Nat → Nat → Int32) (d : Nat → Nat → Int64) (f : Int32) (w1 : Int32) (w2 : Int32) (hI : xInv i c) : Met l yX1_isFitting wm_X1_isFitting ({ frames := 4, cells := 0, slots := 0, locals := 86 }) (va_Pc [.ref (a 112), .int f, .int w1, .int w2] (yA (a 186) D sz (xwB sk a t i q c d) (xtB t))) (va_Qi (fun (r : Int32) (_ : Unit) => (0 ≤ r.toInt ∧ r.toInt ≤ 1)) oA (ro sz)) 0 0 (ro sz) := by
  refine Met.ofW (cc := cX1_isFitting) (maxL := 5) (ret := (some .boolean)) (by decide +kernel) rfl ?_
  intro p e s m args below meth cd s₁ B hml hv
  obtain ⟨rfl, ⟨hsz, hP, hK⟩, hN, hZ⟩ := hv
  have hx := B.exec
  have hb := B.bytes
  have hr := B.returns
  have hts := atoms_spec (ws := wm_X1_isFitting) B.pre
  have hown : s.vm.findClass RX1 = some m.cls := findClass_of_methodNamed B.named
  have hlocks := B.notSynchronized
  subst hsz
  have hA : ∀ q : Nat, s.heap.size ≤ q → ro s.heap.size q := fun _ h => h
  have hS : va_S (ro s.heap.size) s.heap s.heap [] := va_S.rf
  have hl := lv_entry ([.ref (a 112), .int f, .int w1, .int w2]) (n := 5) (Nat.le_of_ble_eq_true rfl)
  rw [lg_entry_eq]
  generalize (lg_sl ([.ref (a 112), .int f, .int w1, .int w2]) ++ List.replicate (5 - (lg_sl ([.ref (a 112), .int f, .int w1, .int w2])).length) Slot.unset).toArray = ls at hl ⊢
  have hl : lv_has ls 5 [(0, .ref (a 112)), (1, .int f), (2, .int w1), (3, .int w2)] := hl
  refine lv_aload_n hx hb dX1_isFitting_0 rfl (lv_at hl 0 rfl) ?_
  refine xgB_B_world hx hb hts (fun _ h => List.mem_cons_of_mem _ (List.mem_append_left _ (List.mem_append_right _ h))) hown hK hP (hts (.fieldLink RX1 43 "TalePlay$Book" "world" "LTalePlay$World;") (List.mem_cons_of_mem _ (List.mem_append_left _ (List.mem_append_left _ (List.mem_append_left _ (List.mem_of_getElem? (i := 0) rfl)))))) dX1_isFitting_1 ?_
  refine lv_iload_n hx hb dX1_isFitting_4 rfl (lv_at hl 3 rfl) ?_
  have rb111_i : 0 ≤ (i 111).toInt ∧ (i 111).toInt ≤ 30 := hI.1 111
  refine ro_calli (va_runV (As := [.int w2]) (rest := []) ⟨hx, hb, hml, hown, hts⟩ (x_X10_sortOf l D s.heap.size .null a t i q c d w2 hI ) (cwV 1 hts gm_X1_isFitting_X10_sortOf_72 rfl rfl rfl (by decide +kernel) ⟨Nat.le_of_ble_eq_true rfl, Nat.le_of_ble_eq_true rfl⟩) (yA_V hN (xZ_k hZ hS hA) (xkB_W hK) (xuB_W (sk := sk) hP) (ci := 10) (q0 := 0) rfl rfl) rfl rfl hl.1 rfl (lv_room (Nat.le_of_ble_eq_true rfl)) dX1_isFitting_5 ⟨Nat.le_of_ble_eq_true rfl, Nat.le_of_ble_eq_true rfl⟩) hS hA hP (fun r1 u1 H locs hw1 hP hS => ?_)
  have hw1 : ((r1.toInt = -9 ∧ ¬ (0 ≤ w2.toInt ∧ w2.toInt < (i 111).toInt)) ∨ (0 ≤ r1.toInt ∧ r1.toInt ≤ 5 ∧ 0 ≤ w2.toInt ∧ w2.toInt < (i 111).toInt)) := hw1
  refine lv_istore (lv' := [(4, .int r1), (0, .ref (a 112)), (1, .int f), (2, .int w1), (3, .int w2)]) hx hb dX1_isFitting_8 hl (by decide +kernel) rfl (fun ls hl => ?_)
  refine lv_iload_n hx hb dX1_isFitting_10 rfl (lv_at hl 2 rfl) ?_
  rcases (show (f.toInt < 0 ∨ 6 < f.toInt) ∨ f.toInt = 0 ∨ f.toInt = 1 ∨ f.toInt = 2 ∨ f.toInt = 3 ∨ f.toInt = 4 ∨ f.toInt = 5 ∨ f.toInt = 6 by omega) with f2 | f2 | f2 | f2 | f2 | f2 | f2 | f2
  · refine lv_tableOut (tgt := 198) hx hb dX1_isFitting_11 f2 (by decide +kernel) ?_
    refine lv_aload_n hx hb dX1_isFitting_198 rfl (lv_at hl 1 rfl) ?_
    refine xgB_B_world hx hb hts (fun _ h => List.mem_cons_of_mem _ (List.mem_append_left _ (List.mem_append_right _ h))) hown hK hP (hts (.fieldLink RX1 43 "TalePlay$Book" "world" "LTalePlay$World;") (List.mem_cons_of_mem _ (List.mem_append_left _ (List.mem_append_left _ (List.mem_append_left _ (List.mem_of_getElem? (i := 0) rfl)))))) dX1_isFitting_199 ?_
    refine lv_iload_n hx hb dX1_isFitting_202 rfl (lv_at hl 3 rfl) ?_
    refine ro_calli (va_runV (As := [.int w1]) (rest := []) ⟨hx, hb, hml, hown, hts⟩ (x_X10_isGoods l D H.size .null a t i q c d w1 hI ) (cwV 1 hts gm_X1_isFitting_X10_isGoods_79 rfl rfl rfl (by decide +kernel) ⟨Nat.le_of_ble_eq_true rfl, Nat.le_of_ble_eq_true rfl⟩) (yA_V hN (xZ_k hZ hS hA) (xkB_W hK) (xuB_W (sk := sk) hP) (ci := 10) (q0 := 0) rfl rfl) rfl rfl hl.1 rfl (lv_room (Nat.le_of_ble_eq_true rfl)) dX1_isFitting_203 ⟨Nat.le_of_ble_eq_true rfl, Nat.le_of_ble_eq_true rfl⟩) hS hA hP (fun r3 u3 H locs hw3 hP hS => ?_)
    have hw3 : (0 ≤ r3.toInt ∧ r3.toInt ≤ 1) := hw3
    refine lv_if_eq (tgt := 224) hx hb dX1_isFitting_206 (by decide +kernel) (fun c4 => ?_) (fun c4 => ?_)
    · have f4 := (ti_eq (a := r3.toInt) (b := 0) rfl (by decide +kernel)).mp c4
      refine lv_iconst (v := 0) hx hb dX1_isFitting_224 (by decide +kernel) ?_
      exact ro_zret hx hb hr hlocks hS rfl dX1_isFitting_225 (show 0 ≤ (0 : Int32).toInt ∧ (0 : Int32).toInt ≤ 1 from by decide +kernel)
    · have f4 := mt (ti_eq (a := r3.toInt) (b := 0) rfl (by decide +kernel)).mpr c4
      refine lv_aload_n hx hb dX1_isFitting_209 rfl (lv_at hl 1 rfl) ?_
      refine xgB_B_world hx hb hts (fun _ h => List.mem_cons_of_mem _ (List.mem_append_left _ (List.mem_append_right _ h))) hown hK hP (hts (.fieldLink RX1 43 "TalePlay$Book" "world" "LTalePlay$World;") (List.mem_cons_of_mem _ (List.mem_append_left _ (List.mem_append_left _ (List.mem_append_left _ (List.mem_of_getElem? (i := 0) rfl)))))) dX1_isFitting_210 ?_
      refine lv_iload_n hx hb dX1_isFitting_213 rfl (lv_at hl 4 rfl) ?_
      refine ro_calli (va_runV (As := [.int w2]) (rest := []) ⟨hx, hb, hml, hown, hts⟩ (x_X10_isShutter l D H.size .null a t i q c d w2 hI ) (cwV 1 hts gm_X1_isFitting_X10_isShutter_85 rfl rfl rfl (by decide +kernel) ⟨Nat.le_of_ble_eq_true rfl, Nat.le_of_ble_eq_true rfl⟩) (yA_V hN (xZ_k hZ hS hA) (xkB_W hK) (xuB_W (sk := sk) hP) (ci := 10) (q0 := 0) rfl rfl) rfl rfl hl.1 rfl (lv_room (Nat.le_of_ble_eq_true rfl)) dX1_isFitting_214 ⟨Nat.le_of_ble_eq_true rfl, Nat.le_of_ble_eq_true rfl⟩) hS hA hP (fun r5 u5 H locs hw5 hP hS => ?_)
      have hw5 : (0 ≤ r5.toInt ∧ r5.toInt ≤ 1) := hw5
      refine lv_if_eq (tgt := 224) hx hb dX1_isFitting_217 (by decide +kernel) (fun c6 => ?_) (fun c6 => ?_)
      · have f6 := (ti_eq (a := r5.toInt) (b := 0) rfl (by decide +kernel)).mp c6
        refine lv_iconst (v := 0) hx hb dX1_isFitting_224 (by decide +kernel) ?_
        exact ro_zret hx hb hr hlocks hS rfl dX1_isFitting_225 (show 0 ≤ (0 : Int32).toInt ∧ (0 : Int32).toInt ≤ 1 from by decide +kernel)
      · have f6 := mt (ti_eq (a := r5.toInt) (b := 0) rfl (by decide +kernel)).mpr c6
        refine lv_iconst (v := 1) hx hb dX1_isFitting_220 (by decide +kernel) ?_
        refine lv_goto (tgt := 225) hx hb dX1_isFitting_221 (by decide +kernel) ?_
        exact ro_zret hx hb hr hlocks hS rfl dX1_isFitting_225 (show 0 ≤ (1 : Int32).toInt ∧ (1 : Int32).toInt ≤ 1 from by decide +kernel)
  · refine lv_tableIn (off := 41) (tgt := 52) hx hb dX1_isFitting_11 (by omega) (by omega) (by rw [f2]; rfl) (by decide +kernel) ?_
    refine lv_aload_n hx hb dX1_isFitting_52 rfl (lv_at hl 1 rfl) ?_
    refine xgB_B_world hx hb hts (fun _ h => List.mem_cons_of_mem _ (List.mem_append_left _ (List.mem_append_right _ h))) hown hK hP (hts (.fieldLink RX1 43 "TalePlay$Book" "world" "LTalePlay$World;") (List.mem_cons_of_mem _ (List.mem_append_left _ (List.mem_append_left _ (List.mem_append_left _ (List.mem_of_getElem? (i := 0) rfl)))))) dX1_isFitting_53 ?_
    refine lv_iload_n hx hb dX1_isFitting_56 rfl (lv_at hl 3 rfl) ?_
    refine ro_calli (va_runV (As := [.int w1]) (rest := []) ⟨hx, hb, hml, hown, hts⟩ (x_X10_isMovable l D H.size .null a t i q c d w1 hI ) (cwV 1 hts gm_X1_isFitting_X10_isMovable_76 rfl rfl rfl (by decide +kernel) ⟨Nat.le_of_ble_eq_true rfl, Nat.le_of_ble_eq_true rfl⟩) (yA_V hN (xZ_k hZ hS hA) (xkB_W hK) (xuB_W (sk := sk) hP) (ci := 10) (q0 := 0) rfl rfl) rfl rfl hl.1 rfl (lv_room (Nat.le_of_ble_eq_true rfl)) dX1_isFitting_57 ⟨Nat.le_of_ble_eq_true rfl, Nat.le_of_ble_eq_true rfl⟩) hS hA hP (fun r7 u7 H locs hw7 hP hS => ?_)
    have hw7 : (0 ≤ r7.toInt ∧ r7.toInt ≤ 1) := hw7
    refine lv_if_eq (tgt := 78) hx hb dX1_isFitting_60 (by decide +kernel) (fun c8 => ?_) (fun c8 => ?_)
    · have f8 := (ti_eq (a := r7.toInt) (b := 0) rfl (by decide +kernel)).mp c8
      refine lv_iconst (v := 0) hx hb dX1_isFitting_78 (by decide +kernel) ?_
      refine lv_goto (tgt := 225) hx hb dX1_isFitting_79 (by decide +kernel) ?_
      exact ro_zret hx hb hr hlocks hS rfl dX1_isFitting_225 (show 0 ≤ (0 : Int32).toInt ∧ (0 : Int32).toInt ≤ 1 from by decide +kernel)
    · have f8 := mt (ti_eq (a := r7.toInt) (b := 0) rfl (by decide +kernel)).mpr c8
      refine lv_iload hx hb dX1_isFitting_63 (lv_at hl 0 rfl) ?_
      refine lv_if_eq (tgt := 74) hx hb dX1_isFitting_65 (by decide +kernel) (fun c9 => ?_) (fun c9 => ?_)
      · have f9 := (ti_eq (a := r1.toInt) (b := 0) rfl (by decide +kernel)).mp c9
        refine lv_iconst (v := 1) hx hb dX1_isFitting_74 (by decide +kernel) ?_
        refine lv_goto (tgt := 225) hx hb dX1_isFitting_75 (by decide +kernel) ?_
        exact ro_zret hx hb hr hlocks hS rfl dX1_isFitting_225 (show 0 ≤ (1 : Int32).toInt ∧ (1 : Int32).toInt ≤ 1 from by decide +kernel)
      · have f9 := mt (ti_eq (a := r1.toInt) (b := 0) rfl (by decide +kernel)).mpr c9
        refine lv_iload hx hb dX1_isFitting_68 (lv_at hl 0 rfl) ?_
        refine lv_iconst (v := 3) hx hb dX1_isFitting_70 (by decide +kernel) ?_
        refine lv_icmp_ne (tgt := 78) hx hb dX1_isFitting_71 (by decide +kernel) (fun c10 => ?_) (fun c10 => ?_)
        · have f10 := mt (ti_eq (a := r1.toInt) (b := 3) rfl (by decide +kernel)).mpr c10
          refine lv_iconst (v := 0) hx hb dX1_isFitting_78 (by decide +kernel) ?_
          refine lv_goto (tgt := 225) hx hb dX1_isFitting_79 (by decide +kernel) ?_
          exact ro_zret hx hb hr hlocks hS rfl dX1_isFitting_225 (show 0 ≤ (0 : Int32).toInt ∧ (0 : Int32).toInt ≤ 1 from by decide +kernel)
        · have f10 := (ti_eq (a := r1.toInt) (b := 3) rfl (by decide +kernel)).mp c10
          refine lv_iconst (v := 1) hx hb dX1_isFitting_74 (by decide +kernel) ?_
          refine lv_goto (tgt := 225) hx hb dX1_isFitting_75 (by decide +kernel) ?_
          exact ro_zret hx hb hr hlocks hS rfl dX1_isFitting_225 (show 0 ≤ (1 : Int32).toInt ∧ (1 : Int32).toInt ≤ 1 from by decide +kernel)
  · refine lv_tableIn (off := 71) (tgt := 82) hx hb dX1_isFitting_11 (by omega) (by omega) (by rw [f2]; rfl) (by decide +kernel) ?_
    refine lv_aload_n hx hb dX1_isFitting_82 rfl (lv_at hl 1 rfl) ?_
    refine xgB_B_world hx hb hts (fun _ h => List.mem_cons_of_mem _ (List.mem_append_left _ (List.mem_append_right _ h))) hown hK hP (hts (.fieldLink RX1 43 "TalePlay$Book" "world" "LTalePlay$World;") (List.mem_cons_of_mem _ (List.mem_append_left _ (List.mem_append_left _ (List.mem_append_left _ (List.mem_of_getElem? (i := 0) rfl)))))) dX1_isFitting_83 ?_
    refine lv_iload_n hx hb dX1_isFitting_86 rfl (lv_at hl 3 rfl) ?_
    refine ro_calli (va_runV (As := [.int w1]) (rest := []) ⟨hx, hb, hml, hown, hts⟩ (x_X10_isMovable l D H.size .null a t i q c d w1 hI ) (cwV 1 hts gm_X1_isFitting_X10_isMovable_76 rfl rfl rfl (by decide +kernel) ⟨Nat.le_of_ble_eq_true rfl, Nat.le_of_ble_eq_true rfl⟩) (yA_V hN (xZ_k hZ hS hA) (xkB_W hK) (xuB_W (sk := sk) hP) (ci := 10) (q0 := 0) rfl rfl) rfl rfl hl.1 rfl (lv_room (Nat.le_of_ble_eq_true rfl)) dX1_isFitting_87 ⟨Nat.le_of_ble_eq_true rfl, Nat.le_of_ble_eq_true rfl⟩) hS hA hP (fun r11 u11 H locs hw11 hP hS => ?_)
    have hw11 : (0 ≤ r11.toInt ∧ r11.toInt ≤ 1) := hw11
    refine lv_if_eq (tgt := 103) hx hb dX1_isFitting_90 (by decide +kernel) (fun c12 => ?_) (fun c12 => ?_)
    · have f12 := (ti_eq (a := r11.toInt) (b := 0) rfl (by decide +kernel)).mp c12
      refine lv_iconst (v := 0) hx hb dX1_isFitting_103 (by decide +kernel) ?_
      refine lv_goto (tgt := 225) hx hb dX1_isFitting_104 (by decide +kernel) ?_
      exact ro_zret hx hb hr hlocks hS rfl dX1_isFitting_225 (show 0 ≤ (0 : Int32).toInt ∧ (0 : Int32).toInt ≤ 1 from by decide +kernel)
    · have f12 := mt (ti_eq (a := r11.toInt) (b := 0) rfl (by decide +kernel)).mpr c12
      refine lv_iload hx hb dX1_isFitting_93 (lv_at hl 0 rfl) ?_
      refine lv_iconst (v := 4) hx hb dX1_isFitting_95 (by decide +kernel) ?_
      refine lv_icmp_ne (tgt := 103) hx hb dX1_isFitting_96 (by decide +kernel) (fun c13 => ?_) (fun c13 => ?_)
      · have f13 := mt (ti_eq (a := r1.toInt) (b := 4) rfl (by decide +kernel)).mpr c13
        refine lv_iconst (v := 0) hx hb dX1_isFitting_103 (by decide +kernel) ?_
        refine lv_goto (tgt := 225) hx hb dX1_isFitting_104 (by decide +kernel) ?_
        exact ro_zret hx hb hr hlocks hS rfl dX1_isFitting_225 (show 0 ≤ (0 : Int32).toInt ∧ (0 : Int32).toInt ≤ 1 from by decide +kernel)
      · have f13 := (ti_eq (a := r1.toInt) (b := 4) rfl (by decide +kernel)).mp c13
        refine lv_iconst (v := 1) hx hb dX1_isFitting_99 (by decide +kernel) ?_
        refine lv_goto (tgt := 225) hx hb dX1_isFitting_100 (by decide +kernel) ?_
        exact ro_zret hx hb hr hlocks hS rfl dX1_isFitting_225 (show 0 ≤ (1 : Int32).toInt ∧ (1 : Int32).toInt ≤ 1 from by decide +kernel)
  · refine lv_tableIn (off := 96) (tgt := 107) hx hb dX1_isFitting_11 (by omega) (by omega) (by rw [f2]; rfl) (by decide +kernel) ?_
    refine lv_aload_n hx hb dX1_isFitting_107 rfl (lv_at hl 1 rfl) ?_
    refine xgB_B_world hx hb hts (fun _ h => List.mem_cons_of_mem _ (List.mem_append_left _ (List.mem_append_right _ h))) hown hK hP (hts (.fieldLink RX1 43 "TalePlay$Book" "world" "LTalePlay$World;") (List.mem_cons_of_mem _ (List.mem_append_left _ (List.mem_append_left _ (List.mem_append_left _ (List.mem_of_getElem? (i := 0) rfl)))))) dX1_isFitting_108 ?_
    refine lv_iload_n hx hb dX1_isFitting_111 rfl (lv_at hl 3 rfl) ?_
    refine ro_calli (va_runV (As := [.int w1]) (rest := []) ⟨hx, hb, hml, hown, hts⟩ (x_X10_isGoods l D H.size .null a t i q c d w1 hI ) (cwV 1 hts gm_X1_isFitting_X10_isGoods_79 rfl rfl rfl (by decide +kernel) ⟨Nat.le_of_ble_eq_true rfl, Nat.le_of_ble_eq_true rfl⟩) (yA_V hN (xZ_k hZ hS hA) (xkB_W hK) (xuB_W (sk := sk) hP) (ci := 10) (q0 := 0) rfl rfl) rfl rfl hl.1 rfl (lv_room (Nat.le_of_ble_eq_true rfl)) dX1_isFitting_112 ⟨Nat.le_of_ble_eq_true rfl, Nat.le_of_ble_eq_true rfl⟩) hS hA hP (fun r14 u14 H locs hw14 hP hS => ?_)
    have hw14 : (0 ≤ r14.toInt ∧ r14.toInt ≤ 1) := hw14
    refine lv_if_eq (tgt := 128) hx hb dX1_isFitting_115 (by decide +kernel) (fun c15 => ?_) (fun c15 => ?_)
    · have f15 := (ti_eq (a := r14.toInt) (b := 0) rfl (by decide +kernel)).mp c15
      refine lv_iconst (v := 0) hx hb dX1_isFitting_128 (by decide +kernel) ?_
      refine lv_goto (tgt := 225) hx hb dX1_isFitting_129 (by decide +kernel) ?_
      exact ro_zret hx hb hr hlocks hS rfl dX1_isFitting_225 (show 0 ≤ (0 : Int32).toInt ∧ (0 : Int32).toInt ≤ 1 from by decide +kernel)
    · have f15 := mt (ti_eq (a := r14.toInt) (b := 0) rfl (by decide +kernel)).mpr c15
      refine lv_iload hx hb dX1_isFitting_118 (lv_at hl 0 rfl) ?_
      refine lv_iconst (v := 5) hx hb dX1_isFitting_120 (by decide +kernel) ?_
      refine lv_icmp_ne (tgt := 128) hx hb dX1_isFitting_121 (by decide +kernel) (fun c16 => ?_) (fun c16 => ?_)
      · have f16 := mt (ti_eq (a := r1.toInt) (b := 5) rfl (by decide +kernel)).mpr c16
        refine lv_iconst (v := 0) hx hb dX1_isFitting_128 (by decide +kernel) ?_
        refine lv_goto (tgt := 225) hx hb dX1_isFitting_129 (by decide +kernel) ?_
        exact ro_zret hx hb hr hlocks hS rfl dX1_isFitting_225 (show 0 ≤ (0 : Int32).toInt ∧ (0 : Int32).toInt ≤ 1 from by decide +kernel)
      · have f16 := (ti_eq (a := r1.toInt) (b := 5) rfl (by decide +kernel)).mp c16
        refine lv_iconst (v := 1) hx hb dX1_isFitting_124 (by decide +kernel) ?_
        refine lv_goto (tgt := 225) hx hb dX1_isFitting_125 (by decide +kernel) ?_
        exact ro_zret hx hb hr hlocks hS rfl dX1_isFitting_225 (show 0 ≤ (1 : Int32).toInt ∧ (1 : Int32).toInt ≤ 1 from by decide +kernel)
  · refine lv_tableIn (off := 96) (tgt := 107) hx hb dX1_isFitting_11 (by omega) (by omega) (by rw [f2]; rfl) (by decide +kernel) ?_
    refine lv_aload_n hx hb dX1_isFitting_107 rfl (lv_at hl 1 rfl) ?_
    refine xgB_B_world hx hb hts (fun _ h => List.mem_cons_of_mem _ (List.mem_append_left _ (List.mem_append_right _ h))) hown hK hP (hts (.fieldLink RX1 43 "TalePlay$Book" "world" "LTalePlay$World;") (List.mem_cons_of_mem _ (List.mem_append_left _ (List.mem_append_left _ (List.mem_append_left _ (List.mem_of_getElem? (i := 0) rfl)))))) dX1_isFitting_108 ?_
    refine lv_iload_n hx hb dX1_isFitting_111 rfl (lv_at hl 3 rfl) ?_
    refine ro_calli (va_runV (As := [.int w1]) (rest := []) ⟨hx, hb, hml, hown, hts⟩ (x_X10_isGoods l D H.size .null a t i q c d w1 hI ) (cwV 1 hts gm_X1_isFitting_X10_isGoods_79 rfl rfl rfl (by decide +kernel) ⟨Nat.le_of_ble_eq_true rfl, Nat.le_of_ble_eq_true rfl⟩) (yA_V hN (xZ_k hZ hS hA) (xkB_W hK) (xuB_W (sk := sk) hP) (ci := 10) (q0 := 0) rfl rfl) rfl rfl hl.1 rfl (lv_room (Nat.le_of_ble_eq_true rfl)) dX1_isFitting_112 ⟨Nat.le_of_ble_eq_true rfl, Nat.le_of_ble_eq_true rfl⟩) hS hA hP (fun r17 u17 H locs hw17 hP hS => ?_)
    have hw17 : (0 ≤ r17.toInt ∧ r17.toInt ≤ 1) := hw17
    refine lv_if_eq (tgt := 128) hx hb dX1_isFitting_115 (by decide +kernel) (fun c18 => ?_) (fun c18 => ?_)
    · have f18 := (ti_eq (a := r17.toInt) (b := 0) rfl (by decide +kernel)).mp c18
      refine lv_iconst (v := 0) hx hb dX1_isFitting_128 (by decide +kernel) ?_
      refine lv_goto (tgt := 225) hx hb dX1_isFitting_129 (by decide +kernel) ?_
      exact ro_zret hx hb hr hlocks hS rfl dX1_isFitting_225 (show 0 ≤ (0 : Int32).toInt ∧ (0 : Int32).toInt ≤ 1 from by decide +kernel)
    · have f18 := mt (ti_eq (a := r17.toInt) (b := 0) rfl (by decide +kernel)).mpr c18
      refine lv_iload hx hb dX1_isFitting_118 (lv_at hl 0 rfl) ?_
      refine lv_iconst (v := 5) hx hb dX1_isFitting_120 (by decide +kernel) ?_
      refine lv_icmp_ne (tgt := 128) hx hb dX1_isFitting_121 (by decide +kernel) (fun c19 => ?_) (fun c19 => ?_)
      · have f19 := mt (ti_eq (a := r1.toInt) (b := 5) rfl (by decide +kernel)).mpr c19
        refine lv_iconst (v := 0) hx hb dX1_isFitting_128 (by decide +kernel) ?_
        refine lv_goto (tgt := 225) hx hb dX1_isFitting_129 (by decide +kernel) ?_
        exact ro_zret hx hb hr hlocks hS rfl dX1_isFitting_225 (show 0 ≤ (0 : Int32).toInt ∧ (0 : Int32).toInt ≤ 1 from by decide +kernel)
      · have f19 := (ti_eq (a := r1.toInt) (b := 5) rfl (by decide +kernel)).mp c19
        refine lv_iconst (v := 1) hx hb dX1_isFitting_124 (by decide +kernel) ?_
        refine lv_goto (tgt := 225) hx hb dX1_isFitting_125 (by decide +kernel) ?_
        exact ro_zret hx hb hr hlocks hS rfl dX1_isFitting_225 (show 0 ≤ (1 : Int32).toInt ∧ (1 : Int32).toInt ≤ 1 from by decide +kernel)
  · refine lv_tableIn (off := 121) (tgt := 132) hx hb dX1_isFitting_11 (by omega) (by omega) (by rw [f2]; rfl) (by decide +kernel) ?_
    refine lv_aload_n hx hb dX1_isFitting_132 rfl (lv_at hl 1 rfl) ?_
    refine xgB_B_world hx hb hts (fun _ h => List.mem_cons_of_mem _ (List.mem_append_left _ (List.mem_append_right _ h))) hown hK hP (hts (.fieldLink RX1 43 "TalePlay$Book" "world" "LTalePlay$World;") (List.mem_cons_of_mem _ (List.mem_append_left _ (List.mem_append_left _ (List.mem_append_left _ (List.mem_of_getElem? (i := 0) rfl)))))) dX1_isFitting_133 ?_
    refine lv_iload_n hx hb dX1_isFitting_136 rfl (lv_at hl 3 rfl) ?_
    refine ro_calli (va_runV (As := [.int w1]) (rest := []) ⟨hx, hb, hml, hown, hts⟩ (x_X10_isGoods l D H.size .null a t i q c d w1 hI ) (cwV 1 hts gm_X1_isFitting_X10_isGoods_79 rfl rfl rfl (by decide +kernel) ⟨Nat.le_of_ble_eq_true rfl, Nat.le_of_ble_eq_true rfl⟩) (yA_V hN (xZ_k hZ hS hA) (xkB_W hK) (xuB_W (sk := sk) hP) (ci := 10) (q0 := 0) rfl rfl) rfl rfl hl.1 rfl (lv_room (Nat.le_of_ble_eq_true rfl)) dX1_isFitting_137 ⟨Nat.le_of_ble_eq_true rfl, Nat.le_of_ble_eq_true rfl⟩) hS hA hP (fun r20 u20 H locs hw20 hP hS => ?_)
    have hw20 : (0 ≤ r20.toInt ∧ r20.toInt ≤ 1) := hw20
    refine lv_if_eq (tgt := 152) hx hb dX1_isFitting_140 (by decide +kernel) (fun c21 => ?_) (fun c21 => ?_)
    · have f21 := (ti_eq (a := r20.toInt) (b := 0) rfl (by decide +kernel)).mp c21
      refine lv_iconst (v := 0) hx hb dX1_isFitting_152 (by decide +kernel) ?_
      refine lv_goto (tgt := 225) hx hb dX1_isFitting_153 (by decide +kernel) ?_
      exact ro_zret hx hb hr hlocks hS rfl dX1_isFitting_225 (show 0 ≤ (0 : Int32).toInt ∧ (0 : Int32).toInt ≤ 1 from by decide +kernel)
    · have f21 := mt (ti_eq (a := r20.toInt) (b := 0) rfl (by decide +kernel)).mpr c21
      refine lv_iload hx hb dX1_isFitting_143 (lv_at hl 0 rfl) ?_
      refine lv_if_eq (tgt := 152) hx hb dX1_isFitting_145 (by decide +kernel) (fun c22 => ?_) (fun c22 => ?_)
      · have f22 := (ti_eq (a := r1.toInt) (b := 0) rfl (by decide +kernel)).mp c22
        refine lv_iconst (v := 0) hx hb dX1_isFitting_152 (by decide +kernel) ?_
        refine lv_goto (tgt := 225) hx hb dX1_isFitting_153 (by decide +kernel) ?_
        exact ro_zret hx hb hr hlocks hS rfl dX1_isFitting_225 (show 0 ≤ (0 : Int32).toInt ∧ (0 : Int32).toInt ≤ 1 from by decide +kernel)
      · have f22 := mt (ti_eq (a := r1.toInt) (b := 0) rfl (by decide +kernel)).mpr c22
        refine lv_iconst (v := 1) hx hb dX1_isFitting_148 (by decide +kernel) ?_
        refine lv_goto (tgt := 225) hx hb dX1_isFitting_149 (by decide +kernel) ?_
        exact ro_zret hx hb hr hlocks hS rfl dX1_isFitting_225 (show 0 ≤ (1 : Int32).toInt ∧ (1 : Int32).toInt ≤ 1 from by decide +kernel)
  · refine lv_tableIn (off := 145) (tgt := 156) hx hb dX1_isFitting_11 (by omega) (by omega) (by rw [f2]; rfl) (by decide +kernel) ?_
    refine lv_aload_n hx hb dX1_isFitting_156 rfl (lv_at hl 1 rfl) ?_
    refine xgB_B_world hx hb hts (fun _ h => List.mem_cons_of_mem _ (List.mem_append_left _ (List.mem_append_right _ h))) hown hK hP (hts (.fieldLink RX1 43 "TalePlay$Book" "world" "LTalePlay$World;") (List.mem_cons_of_mem _ (List.mem_append_left _ (List.mem_append_left _ (List.mem_append_left _ (List.mem_of_getElem? (i := 0) rfl)))))) dX1_isFitting_157 ?_
    refine lv_iload_n hx hb dX1_isFitting_160 rfl (lv_at hl 3 rfl) ?_
    refine ro_calli (va_runV (As := [.int w1]) (rest := []) ⟨hx, hb, hml, hown, hts⟩ (x_X10_sortOf l D H.size .null a t i q c d w1 hI ) (cwV 1 hts gm_X1_isFitting_X10_sortOf_72 rfl rfl rfl (by decide +kernel) ⟨Nat.le_of_ble_eq_true rfl, Nat.le_of_ble_eq_true rfl⟩) (yA_V hN (xZ_k hZ hS hA) (xkB_W hK) (xuB_W (sk := sk) hP) (ci := 10) (q0 := 0) rfl rfl) rfl rfl hl.1 rfl (lv_room (Nat.le_of_ble_eq_true rfl)) dX1_isFitting_161 ⟨Nat.le_of_ble_eq_true rfl, Nat.le_of_ble_eq_true rfl⟩) hS hA hP (fun r23 u23 H locs hw23 hP hS => ?_)
    have hw23 : ((r23.toInt = -9 ∧ ¬ (0 ≤ w1.toInt ∧ w1.toInt < (i 111).toInt)) ∨ (0 ≤ r23.toInt ∧ r23.toInt ≤ 5 ∧ 0 ≤ w1.toInt ∧ w1.toInt < (i 111).toInt)) := hw23
    refine lv_if_ne (tgt := 182) hx hb dX1_isFitting_164 (by decide +kernel) (fun c24 => ?_) (fun c24 => ?_)
    · have f24 := mt (ti_eq (a := r23.toInt) (b := 0) rfl (by decide +kernel)).mpr c24
      refine lv_iconst (v := 0) hx hb dX1_isFitting_182 (by decide +kernel) ?_
      refine lv_goto (tgt := 225) hx hb dX1_isFitting_183 (by decide +kernel) ?_
      exact ro_zret hx hb hr hlocks hS rfl dX1_isFitting_225 (show 0 ≤ (0 : Int32).toInt ∧ (0 : Int32).toInt ≤ 1 from by decide +kernel)
    · have f24 := (ti_eq (a := r23.toInt) (b := 0) rfl (by decide +kernel)).mp c24
      refine lv_iload hx hb dX1_isFitting_167 (lv_at hl 0 rfl) ?_
      refine lv_if_eq (tgt := 178) hx hb dX1_isFitting_169 (by decide +kernel) (fun c25 => ?_) (fun c25 => ?_)
      · have f25 := (ti_eq (a := r1.toInt) (b := 0) rfl (by decide +kernel)).mp c25
        refine lv_iconst (v := 1) hx hb dX1_isFitting_178 (by decide +kernel) ?_
        refine lv_goto (tgt := 225) hx hb dX1_isFitting_179 (by decide +kernel) ?_
        exact ro_zret hx hb hr hlocks hS rfl dX1_isFitting_225 (show 0 ≤ (1 : Int32).toInt ∧ (1 : Int32).toInt ≤ 1 from by decide +kernel)
      · have f25 := mt (ti_eq (a := r1.toInt) (b := 0) rfl (by decide +kernel)).mpr c25
        refine lv_iload hx hb dX1_isFitting_172 (lv_at hl 0 rfl) ?_
        refine lv_iconst (v := 2) hx hb dX1_isFitting_174 (by decide +kernel) ?_
        refine lv_icmp_ne (tgt := 182) hx hb dX1_isFitting_175 (by decide +kernel) (fun c26 => ?_) (fun c26 => ?_)
        · have f26 := mt (ti_eq (a := r1.toInt) (b := 2) rfl (by decide +kernel)).mpr c26
          refine lv_iconst (v := 0) hx hb dX1_isFitting_182 (by decide +kernel) ?_
          refine lv_goto (tgt := 225) hx hb dX1_isFitting_183 (by decide +kernel) ?_
          exact ro_zret hx hb hr hlocks hS rfl dX1_isFitting_225 (show 0 ≤ (0 : Int32).toInt ∧ (0 : Int32).toInt ≤ 1 from by decide +kernel)
        · have f26 := (ti_eq (a := r1.toInt) (b := 2) rfl (by decide +kernel)).mp c26
          refine lv_iconst (v := 1) hx hb dX1_isFitting_178 (by decide +kernel) ?_
          refine lv_goto (tgt := 225) hx hb dX1_isFitting_179 (by decide +kernel) ?_
          exact ro_zret hx hb hr hlocks hS rfl dX1_isFitting_225 (show 0 ≤ (1 : Int32).toInt ∧ (1 : Int32).toInt ≤ 1 from by decide +kernel)
  · refine lv_tableIn (off := 175) (tgt := 186) hx hb dX1_isFitting_11 (by omega) (by omega) (by rw [f2]; rfl) (by decide +kernel) ?_
    refine lv_aload_n hx hb dX1_isFitting_186 rfl (lv_at hl 1 rfl) ?_
    refine xgB_B_world hx hb hts (fun _ h => List.mem_cons_of_mem _ (List.mem_append_left _ (List.mem_append_right _ h))) hown hK hP (hts (.fieldLink RX1 43 "TalePlay$Book" "world" "LTalePlay$World;") (List.mem_cons_of_mem _ (List.mem_append_left _ (List.mem_append_left _ (List.mem_append_left _ (List.mem_of_getElem? (i := 0) rfl)))))) dX1_isFitting_187 ?_
    refine lv_iload_n hx hb dX1_isFitting_190 rfl (lv_at hl 3 rfl) ?_
    refine lv_iload_n hx hb dX1_isFitting_191 rfl (lv_at hl 4 rfl) ?_
    refine ro_calli (va_runV (As := [.int w1, .int w2]) (rest := []) ⟨hx, hb, hml, hown, hts⟩ (x_X10_canHave l D H.size .null a t i q c d w1 w2 hI ) (cwV 2 hts gm_X1_isFitting_X10_canHave_82 rfl rfl rfl (by decide +kernel) ⟨Nat.le_of_ble_eq_true rfl, Nat.le_of_ble_eq_true rfl⟩) (yA_V hN (xZ_k hZ hS hA) (xkB_W hK) (xuB_W (sk := sk) hP) (ci := 10) (q0 := 0) rfl rfl) rfl rfl hl.1 rfl (lv_room (Nat.le_of_ble_eq_true rfl)) dX1_isFitting_192 ⟨Nat.le_of_ble_eq_true rfl, Nat.le_of_ble_eq_true rfl⟩) hS hA hP (fun r27 u27 H locs hw27 hP hS => ?_)
    have hw27 : (0 ≤ r27.toInt ∧ r27.toInt ≤ 1) := hw27
    refine lv_goto (tgt := 225) hx hb dX1_isFitting_195 (by decide +kernel) ?_
    exact ro_zret hx hb hr hlocks hS (nb_n (show 0 ≤ r27.toInt ∧ r27.toInt ≤ 1 from by omega)) dX1_isFitting_225 (show 0 ≤ r27.toInt ∧ r27.toInt ≤ 1 from by omega)

def wm_X1_standingFor : List Cond := .code yX1_standingFor cX1_standingFor 5 (some .int) :: (([.fieldLink RX1 28 "TalePlay$Book" "placeBy" "[I", .fieldLink RX1 31 "TalePlay$Book" "exitBy" "[I", .fieldLink RX1 34 "TalePlay$Book" "flagBy" "[I", .fieldLink RX1 37 "TalePlay$Book" "keyBy" "[I"] : List Cond) ++ wsX10)
set_option maxHeartbeats 4000000 in
set_option maxRecDepth 100000 in
theorem x_X1_standingFor (l : Launch) (D : va_G) (sz : Nat) (sk : Value) (a : Nat → Nat) (t : Nat → ClassId) (i : Nat → Int32) (q : Int64) (c : Nat → Nat → Int32) (d : Nat → Nat → Int64) (f : Int32) (w1 : Int32) (w2 : Int32) (w3 : Int32) (hI : xInv i c) (hw1 : 0 ≤ w1.toInt ∧ w1.toInt ≤ 29) (hfl : f.toInt = 6 → 0 ≤ w2.toInt ∧ w2.toInt ≤ 5) (hex : f.toInt = 5 → 0 ≤ w3.toInt ∧ w3.toInt ≤ 9) (hky : f.toInt = 7 → 0 ≤ w2.toInt ∧ w2.toInt ≤ 29) : Met l yX1_standingFor wm_X1_standingFor ({ frames := 0, cells := 0, slots := 0, locals := 0 }) (va_Pc [.ref (a 112), .int f, .int w1, .int w2, .int w3] (yA (a 186) D sz (xwB sk a t i q c d) (xtB t))) (va_Qi (fun (r : Int32) (_ : Unit) => (r.toInt = -9 ∨ (0 ≤ r.toInt ∧ r.toInt ≤ 199))) oA (ro sz)) 0 0 (ro sz) := by
  refine Met.ofW (cc := cX1_standingFor) (maxL := 5) (ret := (some .int)) (by decide +kernel) rfl ?_
  intro p e s m args below meth cd s₁ B hml hv
  obtain ⟨rfl, ⟨hsz, hP, hK⟩, hN, hZ⟩ := hv
  have hx := B.exec
  have hb := B.bytes
  have hr := B.returns
  have hts := atoms_spec (ws := wm_X1_standingFor) B.pre
  have hown : s.vm.findClass RX1 = some m.cls := findClass_of_methodNamed B.named
  have hlocks := B.notSynchronized
  subst hsz
  have hA : ∀ q : Nat, s.heap.size ≤ q → ro s.heap.size q := fun _ h => h
  have hS : va_S (ro s.heap.size) s.heap s.heap [] := va_S.rf
  have hl := lv_entry ([.ref (a 112), .int f, .int w1, .int w2, .int w3]) (n := 5) (Nat.le_of_ble_eq_true rfl)
  rw [lg_entry_eq]
  generalize (lg_sl ([.ref (a 112), .int f, .int w1, .int w2, .int w3]) ++ List.replicate (5 - (lg_sl ([.ref (a 112), .int f, .int w1, .int w2, .int w3])).length) Slot.unset).toArray = ls at hl ⊢
  have hl : lv_has ls 5 [(0, .ref (a 112)), (1, .int f), (2, .int w1), (3, .int w2), (4, .int w3)] := hl
  refine lv_iload_n hx hb dX1_standingFor_0 rfl (lv_at hl 1 rfl) ?_
  rcases (show (f.toInt < 5 ∨ 7 < f.toInt) ∨ f.toInt = 5 ∨ f.toInt = 6 ∨ f.toInt = 7 by omega) with f1 | f1 | f1 | f1
  · refine lv_tableOut (tgt := 66) hx hb dX1_standingFor_1 f1 (by decide +kernel) ?_
    refine lv_aload_n hx hb dX1_standingFor_66 rfl (lv_at hl 0 rfl) ?_
    refine xgB_B_placeBy hx hb hts (fun _ h => List.mem_cons_of_mem _ (List.mem_append_right _ h)) hown hK hP (hts (.fieldLink RX1 28 "TalePlay$Book" "placeBy" "[I") (List.mem_cons_of_mem _ (List.mem_append_left _ (List.mem_of_getElem? (i := 0) rfl)))) dX1_standingFor_67 ?_
    refine lv_iload_n hx hb dX1_standingFor_70 rfl (lv_at hl 2 rfl) ?_
    refine xlB_118 hx hb hK hP (vp_in_iff.mpr (by have h9 : w1.toInt = w1.toInt := rfl; omega)) dX1_standingFor_71 (fun x2 ex2 => ?_)
    have rx2 : x2.toInt = -9 ∨ (0 ≤ x2.toInt ∧ x2.toInt ≤ 199) := by rw [ex2]; exact hI.2 118 _
    exact ro_iret hx hb hr hlocks hS dX1_standingFor_72 (show x2.toInt = -9 ∨ (0 ≤ x2.toInt ∧ x2.toInt ≤ 199) from by omega)
  · refine lv_tableIn (off := 27) (tgt := 28) hx hb dX1_standingFor_1 (by omega) (by omega) (by rw [f1]; rfl) (by decide +kernel) ?_
    refine lv_aload_n hx hb dX1_standingFor_28 rfl (lv_at hl 0 rfl) ?_
    refine xgB_B_exitBy hx hb hts (fun _ h => List.mem_cons_of_mem _ (List.mem_append_right _ h)) hown hK hP (hts (.fieldLink RX1 31 "TalePlay$Book" "exitBy" "[I") (List.mem_cons_of_mem _ (List.mem_append_left _ (List.mem_of_getElem? (i := 1) rfl)))) dX1_standingFor_29 ?_
    refine lv_iload_n hx hb dX1_standingFor_32 rfl (lv_at hl 2 rfl) ?_
    refine lv_bipush (v := 10) hx hb dX1_standingFor_33 (by decide +kernel) ?_
    refine lv_imul hx hb dX1_standingFor_35 ?_
    refine lv_topi (fun x3 ex3 => ?_)
    have tx3 := ti_mul (a := w1.toInt) (b := 10) ex3 rfl (by decide +kernel) (by omega) (by omega)
    refine lv_iload hx hb dX1_standingFor_36 (lv_at hl 4 rfl) ?_
    refine lv_iadd hx hb dX1_standingFor_38 ?_
    refine lv_topi (fun x4 ex4 => ?_)
    have tx4 := ti_add (a := (w1.toInt * 10)) (b := w3.toInt) ex4 tx3 rfl (by omega) (by omega)
    refine xlB_119 hx hb hK hP (vp_in_iff.mpr (by have h9 : x4.toInt = ((w1.toInt * 10) + w3.toInt) := tx4; omega)) dX1_standingFor_39 (fun x5 ex5 => ?_)
    have rx5 : x5.toInt = -9 ∨ (0 ≤ x5.toInt ∧ x5.toInt ≤ 199) := by rw [ex5]; exact hI.2 119 _
    refine lv_goto (tgt := 72) hx hb dX1_standingFor_40 (by decide +kernel) ?_
    exact ro_iret hx hb hr hlocks hS dX1_standingFor_72 (show x5.toInt = -9 ∨ (0 ≤ x5.toInt ∧ x5.toInt ≤ 199) from by omega)
  · refine lv_tableIn (off := 42) (tgt := 43) hx hb dX1_standingFor_1 (by omega) (by omega) (by rw [f1]; rfl) (by decide +kernel) ?_
    refine lv_aload_n hx hb dX1_standingFor_43 rfl (lv_at hl 0 rfl) ?_
    refine xgB_B_flagBy hx hb hts (fun _ h => List.mem_cons_of_mem _ (List.mem_append_right _ h)) hown hK hP (hts (.fieldLink RX1 34 "TalePlay$Book" "flagBy" "[I") (List.mem_cons_of_mem _ (List.mem_append_left _ (List.mem_of_getElem? (i := 2) rfl)))) dX1_standingFor_44 ?_
    refine lv_iload_n hx hb dX1_standingFor_47 rfl (lv_at hl 2 rfl) ?_
    refine lv_bipush (v := 6) hx hb dX1_standingFor_48 (by decide +kernel) ?_
    refine lv_imul hx hb dX1_standingFor_50 ?_
    refine lv_topi (fun x6 ex6 => ?_)
    have tx6 := ti_mul (a := w1.toInt) (b := 6) ex6 rfl (by decide +kernel) (by omega) (by omega)
    refine lv_iload_n hx hb dX1_standingFor_51 rfl (lv_at hl 3 rfl) ?_
    refine lv_iadd hx hb dX1_standingFor_52 ?_
    refine lv_topi (fun x7 ex7 => ?_)
    have tx7 := ti_add (a := (w1.toInt * 6)) (b := w2.toInt) ex7 tx6 rfl (by omega) (by omega)
    refine xlB_120 hx hb hK hP (vp_in_iff.mpr (by have h9 : x7.toInt = ((w1.toInt * 6) + w2.toInt) := tx7; omega)) dX1_standingFor_53 (fun x8 ex8 => ?_)
    have rx8 : x8.toInt = -9 ∨ (0 ≤ x8.toInt ∧ x8.toInt ≤ 199) := by rw [ex8]; exact hI.2 120 _
    refine lv_goto (tgt := 72) hx hb dX1_standingFor_54 (by decide +kernel) ?_
    exact ro_iret hx hb hr hlocks hS dX1_standingFor_72 (show x8.toInt = -9 ∨ (0 ≤ x8.toInt ∧ x8.toInt ≤ 199) from by omega)
  · refine lv_tableIn (off := 56) (tgt := 57) hx hb dX1_standingFor_1 (by omega) (by omega) (by rw [f1]; rfl) (by decide +kernel) ?_
    refine lv_aload_n hx hb dX1_standingFor_57 rfl (lv_at hl 0 rfl) ?_
    refine xgB_B_keyBy hx hb hts (fun _ h => List.mem_cons_of_mem _ (List.mem_append_right _ h)) hown hK hP (hts (.fieldLink RX1 37 "TalePlay$Book" "keyBy" "[I") (List.mem_cons_of_mem _ (List.mem_append_left _ (List.mem_of_getElem? (i := 3) rfl)))) dX1_standingFor_58 ?_
    refine lv_iload_n hx hb dX1_standingFor_61 rfl (lv_at hl 3 rfl) ?_
    refine xlB_121 hx hb hK hP (vp_in_iff.mpr (by have h9 : w2.toInt = w2.toInt := rfl; omega)) dX1_standingFor_62 (fun x9 ex9 => ?_)
    have rx9 : x9.toInt = -9 ∨ (0 ≤ x9.toInt ∧ x9.toInt ≤ 199) := by rw [ex9]; exact hI.2 121 _
    refine lv_goto (tgt := 72) hx hb dX1_standingFor_63 (by decide +kernel) ?_
    exact ro_iret hx hb hr hlocks hS dX1_standingFor_72 (show x9.toInt = -9 ∨ (0 ≤ x9.toInt ∧ x9.toInt ≤ 199) from by omega)

def wm_X1_findSame : List Cond := .code yX1_findSame cX1_findSame 7 (some .int) :: (([.methodLink RX1 88 yX1_standingFor, .instanceMethod yX1_standingFor, .selects RX1 yX1_standingFor yX1_standingFor, .initialized RX1, .code yX1_standingFor cX1_standingFor 5 (some .int), .fieldLink RX1 28 "TalePlay$Book" "placeBy" "[I", .fieldLink RX1 31 "TalePlay$Book" "exitBy" "[I", .fieldLink RX1 34 "TalePlay$Book" "flagBy" "[I", .fieldLink RX1 37 "TalePlay$Book" "keyBy" "[I", .fieldLink RX1 9 "TalePlay$Book" "forms" "[I", .fieldLink RX1 15 "TalePlay$Book" "as" "[I", .fieldLink RX1 18 "TalePlay$Book" "bs" "[I", .fieldLink RX1 21 "TalePlay$Book" "cs" "[I"] : List Cond) ++ wsX10)
set_option maxRecDepth 20000 in
theorem gm_X1_findSame_X1_standingFor_88 : GoodIn wm_X1_findSame (wsV RX1 88 RX1 yX1_standingFor wm_X1_standingFor) := goodIn_w (List.forall_mem_append.mpr ⟨List.forall_mem_cons.mpr ⟨List.mem_cons_of_mem _ (List.mem_append_left _ (List.mem_of_getElem? (i := 0) rfl)), List.forall_mem_cons.mpr ⟨List.mem_cons_of_mem _ (List.mem_append_left _ (List.mem_of_getElem? (i := 1) rfl)), List.forall_mem_cons.mpr ⟨List.mem_cons_of_mem _ (List.mem_append_left _ (List.mem_of_getElem? (i := 2) rfl)), List.forall_mem_cons.mpr ⟨List.mem_cons_of_mem _ (List.mem_append_left _ (List.mem_of_getElem? (i := 3) rfl)), (fun _ h => absurd h List.not_mem_nil)⟩⟩⟩⟩, List.forall_mem_cons.mpr ⟨List.mem_cons_of_mem _ (List.mem_append_left _ (List.mem_of_getElem? (i := 4) rfl)), List.forall_mem_append.mpr ⟨List.forall_mem_cons.mpr ⟨List.mem_cons_of_mem _ (List.mem_append_left _ (List.mem_of_getElem? (i := 5) rfl)), List.forall_mem_cons.mpr ⟨List.mem_cons_of_mem _ (List.mem_append_left _ (List.mem_of_getElem? (i := 6) rfl)), List.forall_mem_cons.mpr ⟨List.mem_cons_of_mem _ (List.mem_append_left _ (List.mem_of_getElem? (i := 7) rfl)), List.forall_mem_cons.mpr ⟨List.mem_cons_of_mem _ (List.mem_append_left _ (List.mem_of_getElem? (i := 8) rfl)), (fun _ h => absurd h List.not_mem_nil)⟩⟩⟩⟩, (fun _ h => List.mem_cons_of_mem _ (List.mem_append_right _ h))⟩⟩⟩) (by decide +kernel)
set_option maxHeartbeats 4000000 in
set_option maxRecDepth 100000 in
theorem x_X1_findSame (l : Launch) (D : va_G) (sz : Nat) (sk : Value) (a : Nat → Nat) (t : Nat → ClassId) (i : Nat → Int32) (q : Int64) (c : Nat → Nat → Int32) (d : Nat → Nat → Int64) (f : Int32) (w1 : Int32) (w2 : Int32) (w3 : Int32) (hI : xInv i c) (hw1 : 0 ≤ w1.toInt ∧ w1.toInt ≤ 29) (hfl : f.toInt = 6 → 0 ≤ w2.toInt ∧ w2.toInt ≤ 5) (hex : f.toInt = 5 → 0 ≤ w3.toInt ∧ w3.toInt ≤ 9) (hky : f.toInt = 7 → 0 ≤ w2.toInt ∧ w2.toInt ≤ 29) : Met l yX1_findSame wm_X1_findSame ({ frames := 1, cells := 0, slots := 0, locals := 24 }) (va_Pc [.ref (a 112), .int f, .int w1, .int w2, .int w3] (yA (a 186) D sz (xwB sk a t i q c d) (xtB t))) (va_Qi (fun (r : Int32) (_ : Unit) => (r.toInt = -9 ∨ (0 ≤ r.toInt ∧ r.toInt ≤ 199))) oA (ro sz)) 0 0 (ro sz) := by
  refine Met.ofW (cc := cX1_findSame) (maxL := 7) (ret := (some .int)) (by decide +kernel) rfl ?_
  intro p e s m args below meth cd s₁ B hml hv
  obtain ⟨rfl, ⟨hsz, hP, hK⟩, hN, hZ⟩ := hv
  have hx := B.exec
  have hb := B.bytes
  have hr := B.returns
  have hts := atoms_spec (ws := wm_X1_findSame) B.pre
  have hown : s.vm.findClass RX1 = some m.cls := findClass_of_methodNamed B.named
  have hlocks := B.notSynchronized
  subst hsz
  have hA : ∀ q : Nat, s.heap.size ≤ q → ro s.heap.size q := fun _ h => h
  have hS : va_S (ro s.heap.size) s.heap s.heap [] := va_S.rf
  have hl := lv_entry ([.ref (a 112), .int f, .int w1, .int w2, .int w3]) (n := 7) (Nat.le_of_ble_eq_true rfl)
  rw [lg_entry_eq]
  generalize (lg_sl ([.ref (a 112), .int f, .int w1, .int w2, .int w3]) ++ List.replicate (7 - (lg_sl ([.ref (a 112), .int f, .int w1, .int w2, .int w3])).length) Slot.unset).toArray = ls at hl ⊢
  have hl : lv_has ls 7 [(0, .ref (a 112)), (1, .int f), (2, .int w1), (3, .int w2), (4, .int w3)] := hl
  refine lv_aload_n hx hb dX1_findSame_0 rfl (lv_at hl 0 rfl) ?_
  refine lv_iload_n hx hb dX1_findSame_1 rfl (lv_at hl 1 rfl) ?_
  refine lv_iload_n hx hb dX1_findSame_2 rfl (lv_at hl 2 rfl) ?_
  refine lv_iload_n hx hb dX1_findSame_3 rfl (lv_at hl 3 rfl) ?_
  refine lv_iload hx hb dX1_findSame_4 (lv_at hl 4 rfl) ?_
  refine ro_calli (va_runV (As := [.int f, .int w1, .int w2, .int w3]) (rest := []) ⟨hx, hb, hml, hown, hts⟩ (x_X1_standingFor l D s.heap.size .null a t i q c d f w1 w2 w3 hI (show 0 ≤ w1.toInt ∧ w1.toInt ≤ 29 from by omega) (show f.toInt = 6 → 0 ≤ w2.toInt ∧ w2.toInt ≤ 5 from by omega) (show f.toInt = 5 → 0 ≤ w3.toInt ∧ w3.toInt ≤ 9 from by omega) (show f.toInt = 7 → 0 ≤ w2.toInt ∧ w2.toInt ≤ 29 from by omega)) (cwV 4 hts gm_X1_findSame_X1_standingFor_88 rfl rfl rfl (by decide +kernel) ⟨Nat.le_of_ble_eq_true rfl, Nat.le_of_ble_eq_true rfl⟩) (yA_V hN (xZ_k hZ hS hA) hK hP (ci := 1) (q0 := 6) rfl rfl) rfl rfl hl.1 rfl (lv_room (Nat.le_of_ble_eq_true rfl)) dX1_findSame_6 ⟨Nat.le_of_ble_eq_true rfl, Nat.le_of_ble_eq_true rfl⟩) hS hA hP (fun r1 u1 H locs hw1 hP hS => ?_)
  have hw1 : (r1.toInt = -9 ∨ (0 ≤ r1.toInt ∧ r1.toInt ≤ 199)) := hw1
  refine lv_istore (lv' := [(5, .int r1), (0, .ref (a 112)), (1, .int f), (2, .int w1), (3, .int w2), (4, .int w3)]) hx hb dX1_findSame_9 hl (by decide +kernel) rfl (fun ls hl => ?_)
  refine lv_iload hx hb dX1_findSame_11 (lv_at hl 0 rfl) ?_
  refine lv_bipush (v := (-9)) hx hb dX1_findSame_13 (by decide +kernel) ?_
  have jn2 : ∀ (z2_0 : Int32), (z2_0.toInt = 0 ∨ z2_0.toInt = 1) → ∀ (H : Heap) (locs : List Loc) (ls : Array Slot), va_P D vwCl (xwB sk a t i q c d) H → va_S (ro s.heap.size) s.heap H locs → lv_has ls 7 [(5, .int r1), (0, .ref (a 112)), (1, .int f), (2, .int w1), (3, .int w2), (4, .int w3)] → W p l e (headSpec wm_X1_findSame ({ frames := 1, cells := 0, slots := 0, locals := 24 })).room s m ([.ref (a 112), .int f, .int w1, .int w2, .int w3] : List Value).toArray below meth cd H locs 0 0 (MQ below (va_Qi (fun (r : Int32) (_ : Unit) => (r.toInt = -9 ∨ (0 ≤ r.toInt ∧ r.toInt ≤ 199))) oA (ro s.heap.size)) ([.ref (a 112), .int f, .int w1, .int w2, .int w3] : List Value).toArray s 0 0 (ro s.heap.size)) (F0 m 68 ls [.int z2_0]) := by
    intro z2_0 hs2_0 H locs ls hP hS hl
    refine lv_istore (lv' := [(6, .int z2_0), (5, .int r1), (0, .ref (a 112)), (1, .int f), (2, .int w1), (3, .int w2), (4, .int w3)]) hx hb dX1_findSame_68 hl (by decide +kernel) rfl (fun ls hl => ?_)
    refine lv_iload hx hb dX1_findSame_70 (lv_at hl 0 rfl) ?_
    refine lv_if_eq (tgt := 80) hx hb dX1_findSame_72 (by decide +kernel) (fun c3 => ?_) (fun c3 => ?_)
    · have f3 := (ti_eq (a := z2_0.toInt) (b := 0) rfl (by decide +kernel)).mp c3
      refine lv_bipush (v := (-9)) hx hb dX1_findSame_80 (by decide +kernel) ?_
      exact ro_iret hx hb hr hlocks hS dX1_findSame_82 (show ((-9) : Int32).toInt = -9 ∨ (0 ≤ ((-9) : Int32).toInt ∧ ((-9) : Int32).toInt ≤ 199) from by decide +kernel)
    · have f3 := mt (ti_eq (a := z2_0.toInt) (b := 0) rfl (by decide +kernel)).mpr c3
      refine lv_iload hx hb dX1_findSame_75 (lv_at hl 1 rfl) ?_
      refine lv_goto (tgt := 82) hx hb dX1_findSame_77 (by decide +kernel) ?_
      exact ro_iret hx hb hr hlocks hS dX1_findSame_82 (show r1.toInt = -9 ∨ (0 ≤ r1.toInt ∧ r1.toInt ≤ 199) from by omega)
  have jn4 : ∀ (H : Heap) (locs : List Loc) (ls : Array Slot), va_P D vwCl (xwB sk a t i q c d) H → va_S (ro s.heap.size) s.heap H locs → lv_has ls 7 [(5, .int r1), (0, .ref (a 112)), (1, .int f), (2, .int w1), (3, .int w2), (4, .int w3)] → W p l e (headSpec wm_X1_findSame ({ frames := 1, cells := 0, slots := 0, locals := 24 })).room s m ([.ref (a 112), .int f, .int w1, .int w2, .int w3] : List Value).toArray below meth cd H locs 0 0 (MQ below (va_Qi (fun (r : Int32) (_ : Unit) => (r.toInt = -9 ∨ (0 ≤ r.toInt ∧ r.toInt ≤ 199))) oA (ro s.heap.size)) ([.ref (a 112), .int f, .int w1, .int w2, .int w3] : List Value).toArray s 0 0 (ro s.heap.size)) (F0 m 67 ls []) := by
    intro H locs ls hP hS hl
    refine lv_iconst (v := 0) hx hb dX1_findSame_67 (by decide +kernel) ?_
    exact jn2  (0 : Int32) (show (0 : Int32).toInt = 0 ∨ (0 : Int32).toInt = 1 from by decide +kernel) _ _ _ hP hS (lv_sub hl [0, 1, 2, 3, 4, 5] rfl)
  refine lv_icmp_eq (tgt := 67) hx hb dX1_findSame_15 (by decide +kernel) (fun c5 => ?_) (fun c5 => ?_)
  · have f5 := (ti_eq (a := r1.toInt) (b := (-9)) rfl (by decide +kernel)).mp c5
    exact jn4    _ _ _ hP hS (lv_sub hl [0, 1, 2, 3, 4, 5] rfl)
  · have f5 := mt (ti_eq (a := r1.toInt) (b := (-9)) rfl (by decide +kernel)).mpr c5
    refine lv_aload_n hx hb dX1_findSame_18 rfl (lv_at hl 1 rfl) ?_
    refine xgB_B_forms hx hb hts (fun _ h => List.mem_cons_of_mem _ (List.mem_append_right _ h)) hown hK hP (hts (.fieldLink RX1 9 "TalePlay$Book" "forms" "[I") (List.mem_cons_of_mem _ (List.mem_append_left _ (List.mem_of_getElem? (i := 9) rfl)))) dX1_findSame_19 ?_
    refine lv_iload hx hb dX1_findSame_22 (lv_at hl 0 rfl) ?_
    refine xlB_113 hx hb hK hP (vp_in_iff.mpr (by have h9 : r1.toInt = r1.toInt := rfl; omega)) dX1_findSame_24 (fun x6 ex6 => ?_)
    have rx6 : 0 ≤ x6.toInt ∧ x6.toInt ≤ 7 := by rw [ex6]; exact hI.2 113 _
    refine lv_iload_n hx hb dX1_findSame_25 rfl (lv_at hl 2 rfl) ?_
    refine lv_icmp_ne (tgt := 67) hx hb dX1_findSame_26 (by decide +kernel) (fun c7 => ?_) (fun c7 => ?_)
    · have f7 := mt (ti_eq (a := x6.toInt) (b := f.toInt) rfl rfl).mpr c7
      exact jn4    _ _ _ hP hS (lv_sub hl [0, 1, 2, 3, 4, 5] rfl)
    · have f7 := (ti_eq (a := x6.toInt) (b := f.toInt) rfl rfl).mp c7
      refine lv_aload_n hx hb dX1_findSame_29 rfl (lv_at hl 1 rfl) ?_
      refine xgB_B_as hx hb hts (fun _ h => List.mem_cons_of_mem _ (List.mem_append_right _ h)) hown hK hP (hts (.fieldLink RX1 15 "TalePlay$Book" "as" "[I") (List.mem_cons_of_mem _ (List.mem_append_left _ (List.mem_of_getElem? (i := 10) rfl)))) dX1_findSame_30 ?_
      refine lv_iload hx hb dX1_findSame_33 (lv_at hl 0 rfl) ?_
      refine xlB_114 hx hb hK hP (vp_in_iff.mpr (by have h9 : r1.toInt = r1.toInt := rfl; omega)) dX1_findSame_35 (fun x8 ex8 => ?_)
      have rx8 : 0 ≤ x8.toInt ∧ x8.toInt ≤ 29 := by rw [ex8]; exact hI.2 114 _
      refine lv_iload_n hx hb dX1_findSame_36 rfl (lv_at hl 3 rfl) ?_
      refine lv_icmp_ne (tgt := 67) hx hb dX1_findSame_37 (by decide +kernel) (fun c9 => ?_) (fun c9 => ?_)
      · have f9 := mt (ti_eq (a := x8.toInt) (b := w1.toInt) rfl rfl).mpr c9
        exact jn4    _ _ _ hP hS (lv_sub hl [0, 1, 2, 3, 4, 5] rfl)
      · have f9 := (ti_eq (a := x8.toInt) (b := w1.toInt) rfl rfl).mp c9
        refine lv_aload_n hx hb dX1_findSame_40 rfl (lv_at hl 1 rfl) ?_
        refine xgB_B_bs hx hb hts (fun _ h => List.mem_cons_of_mem _ (List.mem_append_right _ h)) hown hK hP (hts (.fieldLink RX1 18 "TalePlay$Book" "bs" "[I") (List.mem_cons_of_mem _ (List.mem_append_left _ (List.mem_of_getElem? (i := 11) rfl)))) dX1_findSame_41 ?_
        refine lv_iload hx hb dX1_findSame_44 (lv_at hl 0 rfl) ?_
        refine xlB_115 hx hb hK hP (vp_in_iff.mpr (by have h9 : r1.toInt = r1.toInt := rfl; omega)) dX1_findSame_46 (fun x10 ex10 => ?_)
        have rx10 : 0 ≤ x10.toInt ∧ x10.toInt ≤ 29 := by rw [ex10]; exact hI.2 115 _
        refine lv_iload_n hx hb dX1_findSame_47 rfl (lv_at hl 4 rfl) ?_
        refine lv_icmp_ne (tgt := 67) hx hb dX1_findSame_48 (by decide +kernel) (fun c11 => ?_) (fun c11 => ?_)
        · have f11 := mt (ti_eq (a := x10.toInt) (b := w2.toInt) rfl rfl).mpr c11
          exact jn4    _ _ _ hP hS (lv_sub hl [0, 1, 2, 3, 4, 5] rfl)
        · have f11 := (ti_eq (a := x10.toInt) (b := w2.toInt) rfl rfl).mp c11
          refine lv_aload_n hx hb dX1_findSame_51 rfl (lv_at hl 1 rfl) ?_
          refine xgB_B_cs hx hb hts (fun _ h => List.mem_cons_of_mem _ (List.mem_append_right _ h)) hown hK hP (hts (.fieldLink RX1 21 "TalePlay$Book" "cs" "[I") (List.mem_cons_of_mem _ (List.mem_append_left _ (List.mem_of_getElem? (i := 12) rfl)))) dX1_findSame_52 ?_
          refine lv_iload hx hb dX1_findSame_55 (lv_at hl 0 rfl) ?_
          refine xlB_116 hx hb hK hP (vp_in_iff.mpr (by have h9 : r1.toInt = r1.toInt := rfl; omega)) dX1_findSame_57 (fun x12 ex12 => ?_)
          have rx12 : 0 ≤ x12.toInt ∧ x12.toInt ≤ 9 := by rw [ex12]; exact hI.2 116 _
          refine lv_iload hx hb dX1_findSame_58 (lv_at hl 5 rfl) ?_
          refine lv_icmp_ne (tgt := 67) hx hb dX1_findSame_60 (by decide +kernel) (fun c13 => ?_) (fun c13 => ?_)
          · have f13 := mt (ti_eq (a := x12.toInt) (b := w3.toInt) rfl rfl).mpr c13
            exact jn4    _ _ _ hP hS (lv_sub hl [0, 1, 2, 3, 4, 5] rfl)
          · have f13 := (ti_eq (a := x12.toInt) (b := w3.toInt) rfl rfl).mp c13
            refine lv_iconst (v := 1) hx hb dX1_findSame_63 (by decide +kernel) ?_
            refine lv_goto (tgt := 68) hx hb dX1_findSame_64 (by decide +kernel) ?_
            exact jn2  (1 : Int32) (show (1 : Int32).toInt = 0 ∨ (1 : Int32).toInt = 1 from by decide +kernel) _ _ _ hP hS (lv_sub hl [0, 1, 2, 3, 4, 5] rfl)

def wm_X1_part : List Cond := .code yX1_part cX1_part 3 (some .int) :: (([.fieldLink RX1 24 "TalePlay$Book" "said" "[Z", .code yX11_oneIf cX11_oneIf 1 (some .int), .initialized RX11, .static yX11_oneIf, .fieldLink RX1 9 "TalePlay$Book" "forms" "[I", .fieldLink RX1 15 "TalePlay$Book" "as" "[I", .fieldLink RX1 18 "TalePlay$Book" "bs" "[I", .fieldLink RX1 21 "TalePlay$Book" "cs" "[I"] : List Cond) ++ wsX10)
set_option maxRecDepth 20000 in
theorem gm_X1_part_X11_oneIf_110 : GoodIn wm_X1_part wm_X11_oneIf := goodIn_w (List.forall_mem_cons.mpr ⟨List.mem_cons_of_mem _ (List.mem_append_left _ (List.mem_of_getElem? (i := 1) rfl)), (fun _ h => absurd h List.not_mem_nil)⟩) (by decide +kernel)
set_option maxHeartbeats 4000000 in
set_option maxRecDepth 100000 in
theorem x_X1_part (l : Launch) (D : va_G) (sz : Nat) (sk : Value) (a : Nat → Nat) (t : Nat → ClassId) (i : Nat → Int32) (q : Int64) (c : Nat → Nat → Int32) (d : Nat → Nat → Int64) (s1 : Int32) (w : Int32) (hI : xInv i c) (hs1 : 0 ≤ s1.toInt ∧ s1.toInt ≤ 199) : Met l yX1_part wm_X1_part ({ frames := 1, cells := 0, slots := 0, locals := 20 }) (va_Pc [.ref (a 112), .int s1, .int w] (yA (a 186) D sz (xwB sk a t i q c d) (xtB t))) (va_Qi (fun (r : Int32) (_ : Unit) => True) oA (ro sz)) 0 0 (ro sz) := by
  refine Met.ofW (cc := cX1_part) (maxL := 3) (ret := (some .int)) (by decide +kernel) rfl ?_
  intro p e s m args below meth cd s₁ B hml hv
  obtain ⟨rfl, ⟨hsz, hP, hK⟩, hN, hZ⟩ := hv
  have hx := B.exec
  have hb := B.bytes
  have hr := B.returns
  have hts := atoms_spec (ws := wm_X1_part) B.pre
  have hown : s.vm.findClass RX1 = some m.cls := findClass_of_methodNamed B.named
  have hlocks := B.notSynchronized
  subst hsz
  have hA : ∀ q : Nat, s.heap.size ≤ q → ro s.heap.size q := fun _ h => h
  have hS : va_S (ro s.heap.size) s.heap s.heap [] := va_S.rf
  have hl := lv_entry ([.ref (a 112), .int s1, .int w]) (n := 3) (Nat.le_of_ble_eq_true rfl)
  rw [lg_entry_eq]
  generalize (lg_sl ([.ref (a 112), .int s1, .int w]) ++ List.replicate (3 - (lg_sl ([.ref (a 112), .int s1, .int w])).length) Slot.unset).toArray = ls at hl ⊢
  have hl : lv_has ls 3 [(0, .ref (a 112)), (1, .int s1), (2, .int w)] := hl
  refine lv_iload_n hx hb dX1_part_0 rfl (lv_at hl 2 rfl) ?_
  rcases (show (w.toInt < 0 ∨ 3 < w.toInt) ∨ w.toInt = 0 ∨ w.toInt = 1 ∨ w.toInt = 2 ∨ w.toInt = 3 by omega) with f1 | f1 | f1 | f1 | f1
  · refine lv_tableOut (tgt := 68) hx hb dX1_part_1 f1 (by decide +kernel) ?_
    refine lv_aload_n hx hb dX1_part_68 rfl (lv_at hl 0 rfl) ?_
    refine xgB_B_said hx hb hts (fun _ h => List.mem_cons_of_mem _ (List.mem_append_right _ h)) hown hK hP (hts (.fieldLink RX1 24 "TalePlay$Book" "said" "[Z") (List.mem_cons_of_mem _ (List.mem_append_left _ (List.mem_of_getElem? (i := 0) rfl)))) dX1_part_69 ?_
    refine lv_iload_n hx hb dX1_part_72 rfl (lv_at hl 1 rfl) ?_
    refine xlB_117 hx hb hK hP (vp_in_iff.mpr (by have h9 : s1.toInt = s1.toInt := rfl; omega)) dX1_part_73 (fun x2 ex2 => ?_)
    have rx2 : 0 ≤ x2.toInt ∧ x2.toInt ≤ 1 := by rw [ex2]; exact hI.2 117 _
    have hNn3 := hN.2.2.2.1
    have hPc := hP.sub (ws' := []) [] rfl
    have hKc := hK.sub (tys' := []) [] rfl
    refine ro_calli (va_runSN (As := [.int x2]) (rest := []) ⟨hx, hb, hml, hown, hts⟩ (c_X11_oneIf l D s.heap.size x2) ⟨va_cnB 1 hts gm_X1_part_X11_oneIf_110 rfl rfl rfl hNn3 (hts (.initialized RX11) (List.mem_cons_of_mem _ (List.mem_append_left _ (List.mem_of_getElem? (i := 2) rfl)))) (by decide +kernel) ⟨Nat.le_of_ble_eq_true rfl, Nat.le_of_ble_eq_true rfl⟩, (hts (.static yX11_oneIf) (List.mem_cons_of_mem _ (List.mem_append_left _ (List.mem_of_getElem? (i := 3) rfl)))), trivial⟩ (pA_S hKc hPc) rfl rfl hl.1 rfl (lv_room (Nat.le_of_ble_eq_true rfl)) dX1_part_74 ⟨Nat.le_of_ble_eq_true rfl, Nat.le_of_ble_eq_true rfl⟩) hS hA hP (fun r4 u4 H locs hw4 hP hS => ?_)
    exact ro_iret hx hb hr hlocks hS dX1_part_77 trivial
  · refine lv_tableIn (off := 31) (tgt := 32) hx hb dX1_part_1 (by omega) (by omega) (by rw [f1]; rfl) (by decide +kernel) ?_
    refine lv_aload_n hx hb dX1_part_32 rfl (lv_at hl 0 rfl) ?_
    refine xgB_B_forms hx hb hts (fun _ h => List.mem_cons_of_mem _ (List.mem_append_right _ h)) hown hK hP (hts (.fieldLink RX1 9 "TalePlay$Book" "forms" "[I") (List.mem_cons_of_mem _ (List.mem_append_left _ (List.mem_of_getElem? (i := 4) rfl)))) dX1_part_33 ?_
    refine lv_iload_n hx hb dX1_part_36 rfl (lv_at hl 1 rfl) ?_
    refine xlB_113 hx hb hK hP (vp_in_iff.mpr (by have h9 : s1.toInt = s1.toInt := rfl; omega)) dX1_part_37 (fun x5 ex5 => ?_)
    have rx5 : 0 ≤ x5.toInt ∧ x5.toInt ≤ 7 := by rw [ex5]; exact hI.2 113 _
    refine lv_goto (tgt := 77) hx hb dX1_part_38 (by decide +kernel) ?_
    exact ro_iret hx hb hr hlocks hS dX1_part_77 trivial
  · refine lv_tableIn (off := 40) (tgt := 41) hx hb dX1_part_1 (by omega) (by omega) (by rw [f1]; rfl) (by decide +kernel) ?_
    refine lv_aload_n hx hb dX1_part_41 rfl (lv_at hl 0 rfl) ?_
    refine xgB_B_as hx hb hts (fun _ h => List.mem_cons_of_mem _ (List.mem_append_right _ h)) hown hK hP (hts (.fieldLink RX1 15 "TalePlay$Book" "as" "[I") (List.mem_cons_of_mem _ (List.mem_append_left _ (List.mem_of_getElem? (i := 5) rfl)))) dX1_part_42 ?_
    refine lv_iload_n hx hb dX1_part_45 rfl (lv_at hl 1 rfl) ?_
    refine xlB_114 hx hb hK hP (vp_in_iff.mpr (by have h9 : s1.toInt = s1.toInt := rfl; omega)) dX1_part_46 (fun x6 ex6 => ?_)
    have rx6 : 0 ≤ x6.toInt ∧ x6.toInt ≤ 29 := by rw [ex6]; exact hI.2 114 _
    refine lv_goto (tgt := 77) hx hb dX1_part_47 (by decide +kernel) ?_
    exact ro_iret hx hb hr hlocks hS dX1_part_77 trivial
  · refine lv_tableIn (off := 49) (tgt := 50) hx hb dX1_part_1 (by omega) (by omega) (by rw [f1]; rfl) (by decide +kernel) ?_
    refine lv_aload_n hx hb dX1_part_50 rfl (lv_at hl 0 rfl) ?_
    refine xgB_B_bs hx hb hts (fun _ h => List.mem_cons_of_mem _ (List.mem_append_right _ h)) hown hK hP (hts (.fieldLink RX1 18 "TalePlay$Book" "bs" "[I") (List.mem_cons_of_mem _ (List.mem_append_left _ (List.mem_of_getElem? (i := 6) rfl)))) dX1_part_51 ?_
    refine lv_iload_n hx hb dX1_part_54 rfl (lv_at hl 1 rfl) ?_
    refine xlB_115 hx hb hK hP (vp_in_iff.mpr (by have h9 : s1.toInt = s1.toInt := rfl; omega)) dX1_part_55 (fun x7 ex7 => ?_)
    have rx7 : 0 ≤ x7.toInt ∧ x7.toInt ≤ 29 := by rw [ex7]; exact hI.2 115 _
    refine lv_goto (tgt := 77) hx hb dX1_part_56 (by decide +kernel) ?_
    exact ro_iret hx hb hr hlocks hS dX1_part_77 trivial
  · refine lv_tableIn (off := 58) (tgt := 59) hx hb dX1_part_1 (by omega) (by omega) (by rw [f1]; rfl) (by decide +kernel) ?_
    refine lv_aload_n hx hb dX1_part_59 rfl (lv_at hl 0 rfl) ?_
    refine xgB_B_cs hx hb hts (fun _ h => List.mem_cons_of_mem _ (List.mem_append_right _ h)) hown hK hP (hts (.fieldLink RX1 21 "TalePlay$Book" "cs" "[I") (List.mem_cons_of_mem _ (List.mem_append_left _ (List.mem_of_getElem? (i := 7) rfl)))) dX1_part_60 ?_
    refine lv_iload_n hx hb dX1_part_63 rfl (lv_at hl 1 rfl) ?_
    refine xlB_116 hx hb hK hP (vp_in_iff.mpr (by have h9 : s1.toInt = s1.toInt := rfl; omega)) dX1_part_64 (fun x8 ex8 => ?_)
    have rx8 : 0 ≤ x8.toInt ∧ x8.toInt ≤ 9 := by rw [ex8]; exact hI.2 116 _
    refine lv_goto (tgt := 77) hx hb dX1_part_65 (by decide +kernel) ?_
    exact ro_iret hx hb hr hlocks hS dX1_part_77 trivial

def wm_X1_saidFlag : List Cond := .code yX1_saidFlag cX1_saidFlag 4 (some .int) :: ((([.fieldLink RX1 34 "TalePlay$Book" "flagBy" "[I", .fieldLink RX1 21 "TalePlay$Book" "cs" "[I", .fieldLink RX1 43 "TalePlay$Book" "world" "LTalePlay$World;", .methodLink RX1 114 yX10_standardFor, .instanceMethod yX10_standardFor, .selects RX10 yX10_standardFor yX10_standardFor, .initialized RX10, .code yX10_standardFor cX10_standardFor 6 (some .int), .fieldLink RX10 21 "TalePlay$World" "kindOf" "[I", .methodLink RX10 40 yX10_sortOf, .instanceMethod yX10_sortOf, .selects RX10 yX10_sortOf yX10_sortOf, .code yX10_sortOf cX10_sortOf 2 (some .int), .fieldLink RX10 37 "TalePlay$World" "objects" "I", .fieldLink RX10 15 "TalePlay$World" "sorts" "[I", .fieldLink RX10 18 "TalePlay$World" "standards" "[I"] : List Cond) ++ ([.fieldLink RX10 9 "TalePlay$World" "parents" "[I"] : List Cond)) ++ wsX10 ++ wsX100)
set_option maxRecDepth 20000 in
theorem gm_X1_saidFlag_X10_standardFor_114 : GoodIn wm_X1_saidFlag (wsV RX1 114 RX10 yX10_standardFor wm_X10_standardFor) := goodIn_w (List.forall_mem_append.mpr ⟨List.forall_mem_cons.mpr ⟨List.mem_cons_of_mem _ (List.mem_append_left _ (List.mem_append_left _ (List.mem_append_left _ (List.mem_of_getElem? (i := 3) rfl)))), List.forall_mem_cons.mpr ⟨List.mem_cons_of_mem _ (List.mem_append_left _ (List.mem_append_left _ (List.mem_append_left _ (List.mem_of_getElem? (i := 4) rfl)))), List.forall_mem_cons.mpr ⟨List.mem_cons_of_mem _ (List.mem_append_left _ (List.mem_append_left _ (List.mem_append_left _ (List.mem_of_getElem? (i := 5) rfl)))), List.forall_mem_cons.mpr ⟨List.mem_cons_of_mem _ (List.mem_append_left _ (List.mem_append_left _ (List.mem_append_left _ (List.mem_of_getElem? (i := 6) rfl)))), (fun _ h => absurd h List.not_mem_nil)⟩⟩⟩⟩, List.forall_mem_cons.mpr ⟨List.mem_cons_of_mem _ (List.mem_append_left _ (List.mem_append_left _ (List.mem_append_left _ (List.mem_of_getElem? (i := 7) rfl)))), List.forall_mem_append.mpr ⟨List.forall_mem_cons.mpr ⟨List.mem_cons_of_mem _ (List.mem_append_left _ (List.mem_append_left _ (List.mem_append_left _ (List.mem_of_getElem? (i := 8) rfl)))), List.forall_mem_cons.mpr ⟨List.mem_cons_of_mem _ (List.mem_append_left _ (List.mem_append_left _ (List.mem_append_left _ (List.mem_of_getElem? (i := 9) rfl)))), List.forall_mem_cons.mpr ⟨List.mem_cons_of_mem _ (List.mem_append_left _ (List.mem_append_left _ (List.mem_append_left _ (List.mem_of_getElem? (i := 10) rfl)))), List.forall_mem_cons.mpr ⟨List.mem_cons_of_mem _ (List.mem_append_left _ (List.mem_append_left _ (List.mem_append_left _ (List.mem_of_getElem? (i := 11) rfl)))), List.forall_mem_cons.mpr ⟨List.mem_cons_of_mem _ (List.mem_append_left _ (List.mem_append_left _ (List.mem_append_left _ (List.mem_of_getElem? (i := 6) rfl)))), List.forall_mem_cons.mpr ⟨List.mem_cons_of_mem _ (List.mem_append_left _ (List.mem_append_left _ (List.mem_append_left _ (List.mem_of_getElem? (i := 12) rfl)))), List.forall_mem_cons.mpr ⟨List.mem_cons_of_mem _ (List.mem_append_left _ (List.mem_append_left _ (List.mem_append_left _ (List.mem_of_getElem? (i := 13) rfl)))), List.forall_mem_cons.mpr ⟨List.mem_cons_of_mem _ (List.mem_append_left _ (List.mem_append_left _ (List.mem_append_left _ (List.mem_of_getElem? (i := 14) rfl)))), List.forall_mem_cons.mpr ⟨List.mem_cons_of_mem _ (List.mem_append_left _ (List.mem_append_left _ (List.mem_append_left _ (List.mem_of_getElem? (i := 15) rfl)))), List.forall_mem_cons.mpr ⟨List.mem_cons_of_mem _ (List.mem_append_left _ (List.mem_append_left _ (List.mem_append_right _ (List.mem_of_getElem? (i := 0) rfl)))), (fun _ h => absurd h List.not_mem_nil)⟩⟩⟩⟩⟩⟩⟩⟩⟩⟩, (fun _ h => List.mem_cons_of_mem _ (List.mem_append_right _ h))⟩⟩⟩) (by decide +kernel)
set_option maxHeartbeats 4000000 in
set_option maxRecDepth 100000 in
theorem x_X1_saidFlag (l : Launch) (D : va_G) (sz : Nat) (sk : Value) (a : Nat → Nat) (t : Nat → ClassId) (i : Nat → Int32) (q : Int64) (c : Nat → Nat → Int32) (d : Nat → Nat → Int64) (w : Int32) (f : Int32) (hI : xInv i c) (hw : 0 ≤ w.toInt ∧ w.toInt ≤ 29) (hf : 0 ≤ f.toInt ∧ f.toInt ≤ 5) : Met l yX1_saidFlag wm_X1_saidFlag ({ frames := 2, cells := 0, slots := 0, locals := 46 }) (va_Pc [.ref (a 112), .int w, .int f] (yA (a 186) D sz (xwB sk a t i q c d) (xtB t))) (va_Qi (fun (r : Int32) (_ : Unit) => (r.toInt = -9 ∨ (0 ≤ r.toInt ∧ r.toInt ≤ 9))) oA (ro sz)) 0 0 (ro sz) := by
  refine Met.ofW (cc := cX1_saidFlag) (maxL := 4) (ret := (some .int)) (by decide +kernel) rfl ?_
  intro p e s m args below meth cd s₁ B hml hv
  obtain ⟨rfl, ⟨hsz, hP, hK⟩, hN, hZ⟩ := hv
  have hx := B.exec
  have hb := B.bytes
  have hr := B.returns
  have hts := atoms_spec (ws := wm_X1_saidFlag) B.pre
  have hown : s.vm.findClass RX1 = some m.cls := findClass_of_methodNamed B.named
  have hlocks := B.notSynchronized
  subst hsz
  have hA : ∀ q : Nat, s.heap.size ≤ q → ro s.heap.size q := fun _ h => h
  have hS : va_S (ro s.heap.size) s.heap s.heap [] := va_S.rf
  have hl := lv_entry ([.ref (a 112), .int w, .int f]) (n := 4) (Nat.le_of_ble_eq_true rfl)
  rw [lg_entry_eq]
  generalize (lg_sl ([.ref (a 112), .int w, .int f]) ++ List.replicate (4 - (lg_sl ([.ref (a 112), .int w, .int f])).length) Slot.unset).toArray = ls at hl ⊢
  have hl : lv_has ls 4 [(0, .ref (a 112)), (1, .int w), (2, .int f)] := hl
  refine lv_aload_n hx hb dX1_saidFlag_0 rfl (lv_at hl 0 rfl) ?_
  refine xgB_B_flagBy hx hb hts (fun _ h => List.mem_cons_of_mem _ (List.mem_append_left _ (List.mem_append_right _ h))) hown hK hP (hts (.fieldLink RX1 34 "TalePlay$Book" "flagBy" "[I") (List.mem_cons_of_mem _ (List.mem_append_left _ (List.mem_append_left _ (List.mem_append_left _ (List.mem_of_getElem? (i := 0) rfl)))))) dX1_saidFlag_1 ?_
  refine lv_iload_n hx hb dX1_saidFlag_4 rfl (lv_at hl 1 rfl) ?_
  refine lv_bipush (v := 6) hx hb dX1_saidFlag_5 (by decide +kernel) ?_
  refine lv_imul hx hb dX1_saidFlag_7 ?_
  refine lv_topi (fun x1 ex1 => ?_)
  have tx1 := ti_mul (a := w.toInt) (b := 6) ex1 rfl (by decide +kernel) (by omega) (by omega)
  refine lv_iload_n hx hb dX1_saidFlag_8 rfl (lv_at hl 2 rfl) ?_
  refine lv_iadd hx hb dX1_saidFlag_9 ?_
  refine lv_topi (fun x2 ex2 => ?_)
  have tx2 := ti_add (a := (w.toInt * 6)) (b := f.toInt) ex2 tx1 rfl (by omega) (by omega)
  refine xlB_120 hx hb hK hP (vp_in_iff.mpr (by have h9 : x2.toInt = ((w.toInt * 6) + f.toInt) := tx2; omega)) dX1_saidFlag_10 (fun x3 ex3 => ?_)
  have rx3 : x3.toInt = -9 ∨ (0 ≤ x3.toInt ∧ x3.toInt ≤ 199) := by rw [ex3]; exact hI.2 120 _
  refine lv_istore_n (lv' := [(3, .int x3), (0, .ref (a 112)), (1, .int w), (2, .int f)]) hx hb dX1_saidFlag_11 rfl hl (by decide +kernel) rfl (fun ls hl => ?_)
  refine lv_iload_n hx hb dX1_saidFlag_12 rfl (lv_at hl 0 rfl) ?_
  refine lv_bipush (v := (-9)) hx hb dX1_saidFlag_13 (by decide +kernel) ?_
  refine lv_icmp_ne (tgt := 30) hx hb dX1_saidFlag_15 (by decide +kernel) (fun c4 => ?_) (fun c4 => ?_)
  · have f4 := mt (ti_eq (a := x3.toInt) (b := (-9)) rfl (by decide +kernel)).mpr c4
    refine lv_aload_n hx hb dX1_saidFlag_30 rfl (lv_at hl 1 rfl) ?_
    refine xgB_B_cs hx hb hts (fun _ h => List.mem_cons_of_mem _ (List.mem_append_left _ (List.mem_append_right _ h))) hown hK hP (hts (.fieldLink RX1 21 "TalePlay$Book" "cs" "[I") (List.mem_cons_of_mem _ (List.mem_append_left _ (List.mem_append_left _ (List.mem_append_left _ (List.mem_of_getElem? (i := 1) rfl)))))) dX1_saidFlag_31 ?_
    refine lv_iload_n hx hb dX1_saidFlag_34 rfl (lv_at hl 0 rfl) ?_
    refine xlB_116 hx hb hK hP (vp_in_iff.mpr (by have h9 : x3.toInt = x3.toInt := rfl; omega)) dX1_saidFlag_35 (fun x5 ex5 => ?_)
    have rx5 : 0 ≤ x5.toInt ∧ x5.toInt ≤ 9 := by rw [ex5]; exact hI.2 116 _
    exact ro_iret hx hb hr hlocks hS dX1_saidFlag_36 (show x5.toInt = -9 ∨ (0 ≤ x5.toInt ∧ x5.toInt ≤ 9) from by omega)
  · have f4 := (ti_eq (a := x3.toInt) (b := (-9)) rfl (by decide +kernel)).mp c4
    refine lv_aload_n hx hb dX1_saidFlag_18 rfl (lv_at hl 1 rfl) ?_
    refine xgB_B_world hx hb hts (fun _ h => List.mem_cons_of_mem _ (List.mem_append_left _ (List.mem_append_right _ h))) hown hK hP (hts (.fieldLink RX1 43 "TalePlay$Book" "world" "LTalePlay$World;") (List.mem_cons_of_mem _ (List.mem_append_left _ (List.mem_append_left _ (List.mem_append_left _ (List.mem_of_getElem? (i := 2) rfl)))))) dX1_saidFlag_19 ?_
    refine lv_iload_n hx hb dX1_saidFlag_22 rfl (lv_at hl 2 rfl) ?_
    refine lv_iload_n hx hb dX1_saidFlag_23 rfl (lv_at hl 3 rfl) ?_
    refine ro_calli (va_runV (As := [.int w, .int f]) (rest := []) ⟨hx, hb, hml, hown, hts⟩ (x_X10_standardFor l D s.heap.size .null a t i q c d w f hI (show 0 ≤ w.toInt ∧ w.toInt ≤ 29 from by omega) (show 0 ≤ f.toInt ∧ f.toInt ≤ 5 from by omega)) (cwV 2 hts gm_X1_saidFlag_X10_standardFor_114 rfl rfl rfl (by decide +kernel) ⟨Nat.le_of_ble_eq_true rfl, Nat.le_of_ble_eq_true rfl⟩) (yA_V hN (xZ_k hZ hS hA) (xkB_W hK) (xuB_W (sk := sk) hP) (ci := 10) (q0 := 0) rfl rfl) rfl rfl hl.1 rfl (lv_room (Nat.le_of_ble_eq_true rfl)) dX1_saidFlag_24 ⟨Nat.le_of_ble_eq_true rfl, Nat.le_of_ble_eq_true rfl⟩) hS hA hP (fun r6 u6 H locs hw6 hP hS => ?_)
    have hw6 : (r6.toInt = -9 ∨ (0 ≤ r6.toInt ∧ r6.toInt ≤ 1)) := hw6
    refine lv_goto (tgt := 36) hx hb dX1_saidFlag_27 (by decide +kernel) ?_
    exact ro_iret hx hb hr hlocks hS dX1_saidFlag_36 (show r6.toInt = -9 ∨ (0 ≤ r6.toInt ∧ r6.toInt ≤ 9) from by omega)

def wm_X1_keyOf : List Cond := .code yX1_keyOf cX1_keyOf 3 (some .int) :: (([.fieldLink RX1 37 "TalePlay$Book" "keyBy" "[I", .fieldLink RX1 15 "TalePlay$Book" "as" "[I"] : List Cond) ++ wsX10)
set_option maxHeartbeats 4000000 in
set_option maxRecDepth 100000 in
theorem x_X1_keyOf (l : Launch) (D : va_G) (sz : Nat) (sk : Value) (a : Nat → Nat) (t : Nat → ClassId) (i : Nat → Int32) (q : Int64) (c : Nat → Nat → Int32) (d : Nat → Nat → Int64) (w : Int32) (hI : xInv i c) (hw : 0 ≤ w.toInt ∧ w.toInt ≤ 29) : Met l yX1_keyOf wm_X1_keyOf ({ frames := 0, cells := 0, slots := 0, locals := 0 }) (va_Pc [.ref (a 112), .int w] (yA (a 186) D sz (xwB sk a t i q c d) (xtB t))) (va_Qi (fun (r : Int32) (_ : Unit) => (r.toInt = -9 ∨ (0 ≤ r.toInt ∧ r.toInt ≤ 29))) oA (ro sz)) 0 0 (ro sz) := by
  refine Met.ofW (cc := cX1_keyOf) (maxL := 3) (ret := (some .int)) (by decide +kernel) rfl ?_
  intro p e s m args below meth cd s₁ B hml hv
  obtain ⟨rfl, ⟨hsz, hP, hK⟩, hN, hZ⟩ := hv
  have hx := B.exec
  have hb := B.bytes
  have hr := B.returns
  have hts := atoms_spec (ws := wm_X1_keyOf) B.pre
  have hown : s.vm.findClass RX1 = some m.cls := findClass_of_methodNamed B.named
  have hlocks := B.notSynchronized
  subst hsz
  have hA : ∀ q : Nat, s.heap.size ≤ q → ro s.heap.size q := fun _ h => h
  have hS : va_S (ro s.heap.size) s.heap s.heap [] := va_S.rf
  have hl := lv_entry ([.ref (a 112), .int w]) (n := 3) (Nat.le_of_ble_eq_true rfl)
  rw [lg_entry_eq]
  generalize (lg_sl ([.ref (a 112), .int w]) ++ List.replicate (3 - (lg_sl ([.ref (a 112), .int w])).length) Slot.unset).toArray = ls at hl ⊢
  have hl : lv_has ls 3 [(0, .ref (a 112)), (1, .int w)] := hl
  refine lv_aload_n hx hb dX1_keyOf_0 rfl (lv_at hl 0 rfl) ?_
  refine xgB_B_keyBy hx hb hts (fun _ h => List.mem_cons_of_mem _ (List.mem_append_right _ h)) hown hK hP (hts (.fieldLink RX1 37 "TalePlay$Book" "keyBy" "[I") (List.mem_cons_of_mem _ (List.mem_append_left _ (List.mem_of_getElem? (i := 0) rfl)))) dX1_keyOf_1 ?_
  refine lv_iload_n hx hb dX1_keyOf_4 rfl (lv_at hl 1 rfl) ?_
  refine xlB_121 hx hb hK hP (vp_in_iff.mpr (by have h9 : w.toInt = w.toInt := rfl; omega)) dX1_keyOf_5 (fun x1 ex1 => ?_)
  have rx1 : x1.toInt = -9 ∨ (0 ≤ x1.toInt ∧ x1.toInt ≤ 199) := by rw [ex1]; exact hI.2 121 _
  refine lv_istore_n (lv' := [(2, .int x1), (0, .ref (a 112)), (1, .int w)]) hx hb dX1_keyOf_6 rfl hl (by decide +kernel) rfl (fun ls hl => ?_)
  refine lv_iload_n hx hb dX1_keyOf_7 rfl (lv_at hl 0 rfl) ?_
  refine lv_bipush (v := (-9)) hx hb dX1_keyOf_8 (by decide +kernel) ?_
  refine lv_icmp_ne (tgt := 18) hx hb dX1_keyOf_10 (by decide +kernel) (fun c2 => ?_) (fun c2 => ?_)
  · have f2 := mt (ti_eq (a := x1.toInt) (b := (-9)) rfl (by decide +kernel)).mpr c2
    refine lv_aload_n hx hb dX1_keyOf_18 rfl (lv_at hl 1 rfl) ?_
    refine xgB_B_as hx hb hts (fun _ h => List.mem_cons_of_mem _ (List.mem_append_right _ h)) hown hK hP (hts (.fieldLink RX1 15 "TalePlay$Book" "as" "[I") (List.mem_cons_of_mem _ (List.mem_append_left _ (List.mem_of_getElem? (i := 1) rfl)))) dX1_keyOf_19 ?_
    refine lv_iload_n hx hb dX1_keyOf_22 rfl (lv_at hl 0 rfl) ?_
    refine xlB_114 hx hb hK hP (vp_in_iff.mpr (by have h9 : x1.toInt = x1.toInt := rfl; omega)) dX1_keyOf_23 (fun x3 ex3 => ?_)
    have rx3 : 0 ≤ x3.toInt ∧ x3.toInt ≤ 29 := by rw [ex3]; exact hI.2 114 _
    exact ro_iret hx hb hr hlocks hS dX1_keyOf_24 (show x3.toInt = -9 ∨ (0 ≤ x3.toInt ∧ x3.toInt ≤ 29) from by omega)
  · have f2 := (ti_eq (a := x1.toInt) (b := (-9)) rfl (by decide +kernel)).mp c2
    refine lv_bipush (v := (-9)) hx hb dX1_keyOf_13 (by decide +kernel) ?_
    refine lv_goto (tgt := 24) hx hb dX1_keyOf_15 (by decide +kernel) ?_
    exact ro_iret hx hb hr hlocks hS dX1_keyOf_24 (show ((-9) : Int32).toInt = -9 ∨ (0 ≤ ((-9) : Int32).toInt ∧ ((-9) : Int32).toInt ≤ 29) from by decide +kernel)

def wm_X1_saying : List Cond := .code yX1_saying cX1_saying 5 (some .int) :: (([.fieldLink RX1 34 "TalePlay$Book" "flagBy" "[I", .fieldLink RX1 21 "TalePlay$Book" "cs" "[I"] : List Cond) ++ wsX10)
set_option maxHeartbeats 4000000 in
set_option maxRecDepth 100000 in
theorem x_X1_saying (l : Launch) (D : va_G) (sz : Nat) (sk : Value) (a : Nat → Nat) (t : Nat → ClassId) (i : Nat → Int32) (q : Int64) (c : Nat → Nat → Int32) (d : Nat → Nat → Int64) (w : Int32) (f : Int32) (v1 : Int32) (hI : xInv i c) (hw : 0 ≤ w.toInt ∧ w.toInt ≤ 29) (hf : 0 ≤ f.toInt ∧ f.toInt ≤ 5) : Met l yX1_saying wm_X1_saying ({ frames := 0, cells := 0, slots := 0, locals := 0 }) (va_Pc [.ref (a 112), .int w, .int f, .int v1] (yA (a 186) D sz (xwB sk a t i q c d) (xtB t))) (va_Qi (fun (r : Int32) (_ : Unit) => (r.toInt = -9 ∨ (0 ≤ r.toInt ∧ r.toInt ≤ 199))) oA (ro sz)) 0 0 (ro sz) := by
  refine Met.ofW (cc := cX1_saying) (maxL := 5) (ret := (some .int)) (by decide +kernel) rfl ?_
  intro p e s m args below meth cd s₁ B hml hv
  obtain ⟨rfl, ⟨hsz, hP, hK⟩, hN, hZ⟩ := hv
  have hx := B.exec
  have hb := B.bytes
  have hr := B.returns
  have hts := atoms_spec (ws := wm_X1_saying) B.pre
  have hown : s.vm.findClass RX1 = some m.cls := findClass_of_methodNamed B.named
  have hlocks := B.notSynchronized
  subst hsz
  have hA : ∀ q : Nat, s.heap.size ≤ q → ro s.heap.size q := fun _ h => h
  have hS : va_S (ro s.heap.size) s.heap s.heap [] := va_S.rf
  have hl := lv_entry ([.ref (a 112), .int w, .int f, .int v1]) (n := 5) (Nat.le_of_ble_eq_true rfl)
  rw [lg_entry_eq]
  generalize (lg_sl ([.ref (a 112), .int w, .int f, .int v1]) ++ List.replicate (5 - (lg_sl ([.ref (a 112), .int w, .int f, .int v1])).length) Slot.unset).toArray = ls at hl ⊢
  have hl : lv_has ls 5 [(0, .ref (a 112)), (1, .int w), (2, .int f), (3, .int v1)] := hl
  refine lv_aload_n hx hb dX1_saying_0 rfl (lv_at hl 0 rfl) ?_
  refine xgB_B_flagBy hx hb hts (fun _ h => List.mem_cons_of_mem _ (List.mem_append_right _ h)) hown hK hP (hts (.fieldLink RX1 34 "TalePlay$Book" "flagBy" "[I") (List.mem_cons_of_mem _ (List.mem_append_left _ (List.mem_of_getElem? (i := 0) rfl)))) dX1_saying_1 ?_
  refine lv_iload_n hx hb dX1_saying_4 rfl (lv_at hl 1 rfl) ?_
  refine lv_bipush (v := 6) hx hb dX1_saying_5 (by decide +kernel) ?_
  refine lv_imul hx hb dX1_saying_7 ?_
  refine lv_topi (fun x1 ex1 => ?_)
  have tx1 := ti_mul (a := w.toInt) (b := 6) ex1 rfl (by decide +kernel) (by omega) (by omega)
  refine lv_iload_n hx hb dX1_saying_8 rfl (lv_at hl 2 rfl) ?_
  refine lv_iadd hx hb dX1_saying_9 ?_
  refine lv_topi (fun x2 ex2 => ?_)
  have tx2 := ti_add (a := (w.toInt * 6)) (b := f.toInt) ex2 tx1 rfl (by omega) (by omega)
  refine xlB_120 hx hb hK hP (vp_in_iff.mpr (by have h9 : x2.toInt = ((w.toInt * 6) + f.toInt) := tx2; omega)) dX1_saying_10 (fun x3 ex3 => ?_)
  have rx3 : x3.toInt = -9 ∨ (0 ≤ x3.toInt ∧ x3.toInt ≤ 199) := by rw [ex3]; exact hI.2 120 _
  refine lv_istore (lv' := [(4, .int x3), (0, .ref (a 112)), (1, .int w), (2, .int f), (3, .int v1)]) hx hb dX1_saying_11 hl (by decide +kernel) rfl (fun ls hl => ?_)
  refine lv_iload hx hb dX1_saying_13 (lv_at hl 0 rfl) ?_
  refine lv_bipush (v := (-9)) hx hb dX1_saying_15 (by decide +kernel) ?_
  refine lv_icmp_eq (tgt := 36) hx hb dX1_saying_17 (by decide +kernel) (fun c4 => ?_) (fun c4 => ?_)
  · have f4 := (ti_eq (a := x3.toInt) (b := (-9)) rfl (by decide +kernel)).mp c4
    refine lv_bipush (v := (-9)) hx hb dX1_saying_36 (by decide +kernel) ?_
    exact ro_iret hx hb hr hlocks hS dX1_saying_38 (show ((-9) : Int32).toInt = -9 ∨ (0 ≤ ((-9) : Int32).toInt ∧ ((-9) : Int32).toInt ≤ 199) from by decide +kernel)
  · have f4 := mt (ti_eq (a := x3.toInt) (b := (-9)) rfl (by decide +kernel)).mpr c4
    refine lv_aload_n hx hb dX1_saying_20 rfl (lv_at hl 1 rfl) ?_
    refine xgB_B_cs hx hb hts (fun _ h => List.mem_cons_of_mem _ (List.mem_append_right _ h)) hown hK hP (hts (.fieldLink RX1 21 "TalePlay$Book" "cs" "[I") (List.mem_cons_of_mem _ (List.mem_append_left _ (List.mem_of_getElem? (i := 1) rfl)))) dX1_saying_21 ?_
    refine lv_iload hx hb dX1_saying_24 (lv_at hl 0 rfl) ?_
    refine xlB_116 hx hb hK hP (vp_in_iff.mpr (by have h9 : x3.toInt = x3.toInt := rfl; omega)) dX1_saying_26 (fun x5 ex5 => ?_)
    have rx5 : 0 ≤ x5.toInt ∧ x5.toInt ≤ 9 := by rw [ex5]; exact hI.2 116 _
    refine lv_iload_n hx hb dX1_saying_27 rfl (lv_at hl 4 rfl) ?_
    refine lv_icmp_ne (tgt := 36) hx hb dX1_saying_28 (by decide +kernel) (fun c6 => ?_) (fun c6 => ?_)
    · have f6 := mt (ti_eq (a := x5.toInt) (b := v1.toInt) rfl rfl).mpr c6
      refine lv_bipush (v := (-9)) hx hb dX1_saying_36 (by decide +kernel) ?_
      exact ro_iret hx hb hr hlocks hS dX1_saying_38 (show ((-9) : Int32).toInt = -9 ∨ (0 ≤ ((-9) : Int32).toInt ∧ ((-9) : Int32).toInt ≤ 199) from by decide +kernel)
    · have f6 := (ti_eq (a := x5.toInt) (b := v1.toInt) rfl rfl).mp c6
      refine lv_iload hx hb dX1_saying_31 (lv_at hl 0 rfl) ?_
      refine lv_goto (tgt := 38) hx hb dX1_saying_33 (by decide +kernel) ?_
      exact ro_iret hx hb hr hlocks hS dX1_saying_38 (show x3.toInt = -9 ∨ (0 ≤ x3.toInt ∧ x3.toInt ≤ 199) from by omega)

def wm_X1_clearClash : List Cond := .code yX1_clearClash cX1_clearClash 1 none :: (([.fieldLink RX1 118 "TalePlay$Book" "clashes" "I"] : List Cond) ++ wsX10)
set_option maxHeartbeats 4000000 in
set_option maxRecDepth 100000 in
theorem x_X1_clearClash (l : Launch) (D : va_G) (sz : Nat) (sk : Value) (a : Nat → Nat) (t : Nat → ClassId) (i : Nat → Int32) (q : Int64) (c : Nat → Nat → Int32) (d : Nat → Nat → Int64) (hI : xInv i c) : Met l yX1_clearClash wm_X1_clearClash ({ frames := 0, cells := 0, slots := 0, locals := 0 }) (va_Pc [.ref (a 112)] (yB (a 186) D sz (xwT sk a t i q c d) (xtT t))) (va_Qv (fun (u : MS) => True ∧ xInv u.1 u.2.2.1 ∧ (∀ k, k ∉ ([123] : List Nat) → u.1 k = i k) ∧ (∀ k, k ∉ ([] : List Nat) → u.2.2.1 k = c k)) (oC D (va_A (xwT sk a t i q c d) sz) (fun u : MS => xwT sk a t u.1 u.2.1 u.2.2.1 u.2.2.2) (fun _ => [])) (va_A (xwT sk a t i q c d) sz)) 0 0 (va_A (xwT sk a t i q c d) sz) := by
  refine Met.ofW (cc := cX1_clearClash) (maxL := 1) (ret := none) (by decide +kernel) rfl ?_
  intro p e s m args below meth cd s₁ B hml hv
  obtain ⟨rfl, ⟨hsz, hP, hK, hD0⟩, hN, hZ, hBW⟩ := hv
  have hx := B.exec
  have hb := B.bytes
  have hr := B.returns
  have hts := atoms_spec (ws := wm_X1_clearClash) B.pre
  have hown : s.vm.findClass RX1 = some m.cls := findClass_of_methodNamed B.named
  have hlocks := B.notSynchronized
  subst hsz
  have hD := hD0.self (sz := s.heap.size)
  have hZ := xZ_A hZ hP hBW
  generalize hAe : va_A (xwT sk a t i q c d) s.heap.size = A at hD hZ ⊢
  have hA : ∀ q : Nat, s.heap.size ≤ q → A q := fun q h => by rw [← hAe]; exact Or.inr h
  have hS : va_S A s.heap s.heap [] := va_S.rf
  have hfi : ∀ k, k ∉ ([] : List Nat) → i k = i k := fun _ _ => rfl
  have hfc : ∀ k, k ∉ ([] : List Nat) → c k = c k := fun _ _ => rfl
  have hl := lv_entry ([.ref (a 112)]) (n := 1) (Nat.le_of_ble_eq_true rfl)
  rw [lg_entry_eq]
  generalize (lg_sl ([.ref (a 112)]) ++ List.replicate (1 - (lg_sl ([.ref (a 112)])).length) Slot.unset).toArray = ls at hl ⊢
  have hl : lv_has ls 1 [(0, .ref (a 112))] := hl
  refine lv_aload_n hx hb dX1_clearClash_0 rfl (lv_at hl 0 rfl) ?_
  refine lv_iconst (v := 0) hx hb dX1_clearClash_1 (by decide +kernel) ?_
  refine xpT_B_clashes hx hb hts (fun _ h => List.mem_cons_of_mem _ (List.mem_append_right _ h)) hown hK hP hD hS (hts (.fieldLink RX1 118 "TalePlay$Book" "clashes" "I") (List.mem_cons_of_mem _ (List.mem_append_left _ (List.mem_of_getElem? (i := 0) rfl)))) rfl rfl dX1_clearClash_2 (fun H locs hP hD hS => ?_)
  have hI := xInv_i hI (k := 123) (v := 0) (show 0 ≤ (0 : Int32).toInt ∧ (0 : Int32).toInt ≤ 30 from by decide +kernel)
  have hfi : ∀ k, k ∉ ([123] : List Nat) → (upd i 123 0) k = i k := fr_iz hfi (by decide +kernel) (by decide +kernel)
  exact rw_vret ((upd i 123 0), q, c, d) hx hb hr hlocks hS (hK.sub (tys' := []) [] rfl) hP hD dX1_clearClash_5 ⟨trivial, hI, fr_w hfi (by decide +kernel), fr_w hfc (by decide +kernel)⟩

def wm_X1_addClash : List Cond := .code yX1_addClash cX1_addClash 2 (some .boolean) :: (([.fieldLink RX1 118 "TalePlay$Book" "clashes" "I", .fieldLink RX1 40 "TalePlay$Book" "clashRow" "[I"] : List Cond) ++ wsX10)
set_option maxHeartbeats 4000000 in
set_option maxRecDepth 100000 in
theorem x_X1_addClash (l : Launch) (D : va_G) (sz : Nat) (sk : Value) (a : Nat → Nat) (t : Nat → ClassId) (i : Nat → Int32) (q : Int64) (c : Nat → Nat → Int32) (d : Nat → Nat → Int64) (s1 : Int32) (hI : xInv i c) (hs1 : s1.toInt = -9 ∨ (0 ≤ s1.toInt ∧ s1.toInt ≤ 199)) : Met l yX1_addClash wm_X1_addClash ({ frames := 0, cells := 0, slots := 0, locals := 0 }) (va_Pc [.ref (a 112), .int s1] (yB (a 186) D sz (xwT sk a t i q c d) (xtT t))) (va_Qi (fun (r : Int32) (u : MS) => (0 ≤ r.toInt ∧ r.toInt ≤ 1) ∧ xInv u.1 u.2.2.1 ∧ (∀ k, k ∉ ([123] : List Nat) → u.1 k = i k) ∧ (∀ k, k ∉ ([122] : List Nat) → u.2.2.1 k = c k)) (oC D (va_A (xwT sk a t i q c d) sz) (fun u : MS => xwT sk a t u.1 u.2.1 u.2.2.1 u.2.2.2) (fun _ => [])) (va_A (xwT sk a t i q c d) sz)) 0 0 (va_A (xwT sk a t i q c d) sz) := by
  refine Met.ofW (cc := cX1_addClash) (maxL := 2) (ret := (some .boolean)) (by decide +kernel) rfl ?_
  intro p e s m args below meth cd s₁ B hml hv
  obtain ⟨rfl, ⟨hsz, hP, hK, hD0⟩, hN, hZ, hBW⟩ := hv
  have hx := B.exec
  have hb := B.bytes
  have hr := B.returns
  have hts := atoms_spec (ws := wm_X1_addClash) B.pre
  have hown : s.vm.findClass RX1 = some m.cls := findClass_of_methodNamed B.named
  have hlocks := B.notSynchronized
  subst hsz
  have hD := hD0.self (sz := s.heap.size)
  have hZ := xZ_A hZ hP hBW
  generalize hAe : va_A (xwT sk a t i q c d) s.heap.size = A at hD hZ ⊢
  have hA : ∀ q : Nat, s.heap.size ≤ q → A q := fun q h => by rw [← hAe]; exact Or.inr h
  have hS : va_S A s.heap s.heap [] := va_S.rf
  have hfi : ∀ k, k ∉ ([] : List Nat) → i k = i k := fun _ _ => rfl
  have hfc : ∀ k, k ∉ ([] : List Nat) → c k = c k := fun _ _ => rfl
  have hl := lv_entry ([.ref (a 112), .int s1]) (n := 2) (Nat.le_of_ble_eq_true rfl)
  rw [lg_entry_eq]
  generalize (lg_sl ([.ref (a 112), .int s1]) ++ List.replicate (2 - (lg_sl ([.ref (a 112), .int s1])).length) Slot.unset).toArray = ls at hl ⊢
  have hl : lv_has ls 2 [(0, .ref (a 112)), (1, .int s1)] := hl
  refine lv_iload_n hx hb dX1_addClash_0 rfl (lv_at hl 1 rfl) ?_
  refine lv_bipush (v := (-9)) hx hb dX1_addClash_1 (by decide +kernel) ?_
  refine lv_icmp_eq (tgt := 18) hx hb dX1_addClash_3 (by decide +kernel) (fun c1 => ?_) (fun c1 => ?_)
  · have f1 := (ti_eq (a := s1.toInt) (b := (-9)) rfl (by decide +kernel)).mp c1
    refine lv_iconst (v := 0) hx hb dX1_addClash_18 (by decide +kernel) ?_
    exact rw_zret (i, q, c, d) hx hb hr hlocks hS (hK.sub (tys' := []) [] rfl) hP hD rfl dX1_addClash_19 ⟨(show 0 ≤ (0 : Int32).toInt ∧ (0 : Int32).toInt ≤ 1 from by decide +kernel), hI, fr_w hfi (by decide +kernel), fr_w hfc (by decide +kernel)⟩
  · have f1 := mt (ti_eq (a := s1.toInt) (b := (-9)) rfl (by decide +kernel)).mpr c1
    refine lv_aload_n hx hb dX1_addClash_6 rfl (lv_at hl 0 rfl) ?_
    refine xgT_B_clashes (v := (i 123)) rfl hx hb hts (fun _ h => List.mem_cons_of_mem _ (List.mem_append_right _ h)) hown hK hP (hts (.fieldLink RX1 118 "TalePlay$Book" "clashes" "I") (List.mem_cons_of_mem _ (List.mem_append_left _ (List.mem_of_getElem? (i := 0) rfl)))) dX1_addClash_7 ?_
    have rb123_i : 0 ≤ (i 123).toInt ∧ (i 123).toInt ≤ 30 := hI.1 123
    refine lv_aload_n hx hb dX1_addClash_10 rfl (lv_at hl 0 rfl) ?_
    refine xgT_B_clashRow hx hb hts (fun _ h => List.mem_cons_of_mem _ (List.mem_append_right _ h)) hown hK hP (hts (.fieldLink RX1 40 "TalePlay$Book" "clashRow" "[I") (List.mem_cons_of_mem _ (List.mem_append_left _ (List.mem_of_getElem? (i := 1) rfl)))) dX1_addClash_11 ?_
    refine xnT_122 hx hb hK hP dX1_addClash_14 ?_
    refine lv_icmp_lt (tgt := 20) hx hb dX1_addClash_15 (by decide +kernel) (fun c2 => ?_) (fun c2 => ?_)
    · have f2 := (ti_lt (a := (i 123).toInt) (b := 30) rfl (by decide +kernel)).mp c2
      refine lv_aload_n hx hb dX1_addClash_20 rfl (lv_at hl 0 rfl) ?_
      refine xgT_B_clashRow hx hb hts (fun _ h => List.mem_cons_of_mem _ (List.mem_append_right _ h)) hown hK hP (hts (.fieldLink RX1 40 "TalePlay$Book" "clashRow" "[I") (List.mem_cons_of_mem _ (List.mem_append_left _ (List.mem_of_getElem? (i := 1) rfl)))) dX1_addClash_21 ?_
      refine lv_aload_n hx hb dX1_addClash_24 rfl (lv_at hl 0 rfl) ?_
      refine lv_dup hx hb dX1_addClash_25 rfl ?_
      refine xgT_B_clashes (v := (i 123)) rfl hx hb hts (fun _ h => List.mem_cons_of_mem _ (List.mem_append_right _ h)) hown hK hP (hts (.fieldLink RX1 118 "TalePlay$Book" "clashes" "I") (List.mem_cons_of_mem _ (List.mem_append_left _ (List.mem_of_getElem? (i := 0) rfl)))) dX1_addClash_26 ?_
      refine lv_dup_x1 hx hb dX1_addClash_29 rfl rfl ?_
      refine lv_iconst (v := 1) hx hb dX1_addClash_30 (by decide +kernel) ?_
      refine lv_iadd hx hb dX1_addClash_31 ?_
      refine lv_topi (fun x3 ex3 => ?_)
      have tx3 := ti_add (a := (i 123).toInt) (b := 1) ex3 rfl (by decide +kernel) (by omega) (by omega)
      refine xpT_B_clashes hx hb hts (fun _ h => List.mem_cons_of_mem _ (List.mem_append_right _ h)) hown hK hP hD hS (hts (.fieldLink RX1 118 "TalePlay$Book" "clashes" "I") (List.mem_cons_of_mem _ (List.mem_append_left _ (List.mem_of_getElem? (i := 0) rfl)))) rfl rfl dX1_addClash_32 (fun H locs hP hD hS => ?_)
      have hI := xInv_i hI (k := 123) (v := x3) (show 0 ≤ (x3 : Int32).toInt ∧ (x3 : Int32).toInt ≤ 30 from by have h9 : x3.toInt = ((i 123).toInt + 1) := tx3; omega)
      have hfi : ∀ k, k ∉ ([123] : List Nat) → (upd i 123 x3) k = i k := fr_iz hfi (by decide +kernel) (by decide +kernel)
      refine lv_iload_n hx hb dX1_addClash_35 rfl (lv_at hl 1 rfl) ?_
      refine xsT_122 hx hb hK hP hD hS (vp_in_iff.mpr (by have h9 : (i 123).toInt = (i 123).toInt := rfl; omega)) dX1_addClash_36 (fun H locs hP hD hS => ?_)
      have hI := xInv_c hI (k := 122) (j := ((i 123) : Int32).toNatClampNeg) (x := s1) (show 0 ≤ (s1 : Int32).toInt ∧ (s1 : Int32).toInt ≤ 199 from by omega)
      have hfc : ∀ k, k ∉ ([122] : List Nat) → (updA c 122 ((i 123) : Int32).toNatClampNeg s1) k = c k := fr_cz hfc (by decide +kernel) (by decide +kernel)
      refine lv_iconst (v := 1) hx hb dX1_addClash_37 (by decide +kernel) ?_
      exact rw_zret ((upd i 123 x3), q, (updA c 122 ((i 123) : Int32).toNatClampNeg s1), d) hx hb hr hlocks hS (hK.sub (tys' := []) [] rfl) hP hD rfl dX1_addClash_38 ⟨(show 0 ≤ (1 : Int32).toInt ∧ (1 : Int32).toInt ≤ 1 from by decide +kernel), hI, fr_w hfi (by decide +kernel), fr_w hfc (by decide +kernel)⟩
    · have f2 := mt (ti_lt (a := (i 123).toInt) (b := 30) rfl (by decide +kernel)).mpr c2
      refine lv_iconst (v := 0) hx hb dX1_addClash_18 (by decide +kernel) ?_
      exact rw_zret (i, q, c, d) hx hb hr hlocks hS (hK.sub (tys' := []) [] rfl) hP hD rfl dX1_addClash_19 ⟨(show 0 ≤ (0 : Int32).toInt ∧ (0 : Int32).toInt ≤ 1 from by decide +kernel), hI, fr_w hfi (by decide +kernel), fr_w hfc (by decide +kernel)⟩

def wm_X1_addChain : List Cond := .code yX1_addChain cX1_addChain 5 none :: (([.fieldLink RX1 28 "TalePlay$Book" "placeBy" "[I", .methodLink RX1 121 yX1_addClash, .instanceMethod yX1_addClash, .selects RX1 yX1_addClash yX1_addClash, .initialized RX1, .code yX1_addClash cX1_addClash 2 (some .boolean), .fieldLink RX1 118 "TalePlay$Book" "clashes" "I", .fieldLink RX1 40 "TalePlay$Book" "clashRow" "[I", .fieldLink RX1 52 "TalePlay$Book" "places" "LTalePlay$Scene;", .methodLink RX1 143 yX6_holderOf, .instanceMethod yX6_holderOf, .selects RX6 yX6_holderOf yX6_holderOf, .initialized RX6, .code yX6_holderOf cX6_holderOf 3 (some .int), .fieldLink RX6 9 "TalePlay$Scene" "cells" "[I"] : List Cond) ++ wsX10 ++ wsX60)
set_option maxRecDepth 20000 in
theorem gm_X1_addChain_X1_addClash_121 : GoodIn wm_X1_addChain (wsV RX1 121 RX1 yX1_addClash wm_X1_addClash) := goodIn_w (List.forall_mem_append.mpr ⟨List.forall_mem_cons.mpr ⟨List.mem_cons_of_mem _ (List.mem_append_left _ (List.mem_append_left _ (List.mem_of_getElem? (i := 1) rfl))), List.forall_mem_cons.mpr ⟨List.mem_cons_of_mem _ (List.mem_append_left _ (List.mem_append_left _ (List.mem_of_getElem? (i := 2) rfl))), List.forall_mem_cons.mpr ⟨List.mem_cons_of_mem _ (List.mem_append_left _ (List.mem_append_left _ (List.mem_of_getElem? (i := 3) rfl))), List.forall_mem_cons.mpr ⟨List.mem_cons_of_mem _ (List.mem_append_left _ (List.mem_append_left _ (List.mem_of_getElem? (i := 4) rfl))), (fun _ h => absurd h List.not_mem_nil)⟩⟩⟩⟩, List.forall_mem_cons.mpr ⟨List.mem_cons_of_mem _ (List.mem_append_left _ (List.mem_append_left _ (List.mem_of_getElem? (i := 5) rfl))), List.forall_mem_append.mpr ⟨List.forall_mem_cons.mpr ⟨List.mem_cons_of_mem _ (List.mem_append_left _ (List.mem_append_left _ (List.mem_of_getElem? (i := 6) rfl))), List.forall_mem_cons.mpr ⟨List.mem_cons_of_mem _ (List.mem_append_left _ (List.mem_append_left _ (List.mem_of_getElem? (i := 7) rfl))), (fun _ h => absurd h List.not_mem_nil)⟩⟩, (fun _ h => List.mem_cons_of_mem _ (List.mem_append_left _ (List.mem_append_right _ h)))⟩⟩⟩) (by decide +kernel)
set_option maxRecDepth 20000 in
theorem gm_X1_addChain_X6_holderOf_BP_143 : GoodIn wm_X1_addChain (wsV RX1 143 RX6 yX6_holderOf wm_X6_holderOf_BP) := goodIn_w (List.forall_mem_append.mpr ⟨List.forall_mem_cons.mpr ⟨List.mem_cons_of_mem _ (List.mem_append_left _ (List.mem_append_left _ (List.mem_of_getElem? (i := 9) rfl))), List.forall_mem_cons.mpr ⟨List.mem_cons_of_mem _ (List.mem_append_left _ (List.mem_append_left _ (List.mem_of_getElem? (i := 10) rfl))), List.forall_mem_cons.mpr ⟨List.mem_cons_of_mem _ (List.mem_append_left _ (List.mem_append_left _ (List.mem_of_getElem? (i := 11) rfl))), List.forall_mem_cons.mpr ⟨List.mem_cons_of_mem _ (List.mem_append_left _ (List.mem_append_left _ (List.mem_of_getElem? (i := 12) rfl))), (fun _ h => absurd h List.not_mem_nil)⟩⟩⟩⟩, List.forall_mem_cons.mpr ⟨List.mem_cons_of_mem _ (List.mem_append_left _ (List.mem_append_left _ (List.mem_of_getElem? (i := 13) rfl))), List.forall_mem_append.mpr ⟨List.forall_mem_cons.mpr ⟨List.mem_cons_of_mem _ (List.mem_append_left _ (List.mem_append_left _ (List.mem_of_getElem? (i := 14) rfl))), (fun _ h => absurd h List.not_mem_nil)⟩, (fun _ h => List.mem_cons_of_mem _ (List.mem_append_right _ h))⟩⟩⟩) (by decide +kernel)
set_option maxHeartbeats 4000000 in
set_option maxRecDepth 100000 in
theorem x_X1_addChain (l : Launch) (D : va_G) (sz : Nat) (sk : Value) (a : Nat → Nat) (t : Nat → ClassId) (i : Nat → Int32) (q : Int64) (c : Nat → Nat → Int32) (d : Nat → Nat → Int64) (w1 : Int32) (w2 : Int32) (hI : xInv i c) (hw2 : 0 ≤ w2.toInt ∧ w2.toInt ≤ 29) : Met l yX1_addChain wm_X1_addChain ({ frames := 1, cells := 0, slots := 0, locals := 22 }) (va_Pc [.ref (a 112), .int w1, .int w2] (yB (a 186) D sz (xwT sk a t i q c d) (xtT t))) (va_Qv (fun (u : MS) => True ∧ xInv u.1 u.2.2.1 ∧ (∀ k, k ∉ ([123] : List Nat) → u.1 k = i k) ∧ (∀ k, k ∉ ([122] : List Nat) → u.2.2.1 k = c k)) (oC D (va_A (xwT sk a t i q c d) sz) (fun u : MS => xwT sk a t u.1 u.2.1 u.2.2.1 u.2.2.2) (fun _ => [])) (va_A (xwT sk a t i q c d) sz)) 0 0 (va_A (xwT sk a t i q c d) sz) := by
  refine Met.ofW (cc := cX1_addChain) (maxL := 5) (ret := none) (by decide +kernel) rfl ?_
  intro p e s m args below meth cd s₁ B hml hv
  obtain ⟨rfl, ⟨hsz, hP, hK, hD0⟩, hN, hZ, hBW⟩ := hv
  have hx := B.exec
  have hb := B.bytes
  have hr := B.returns
  have hts := atoms_spec (ws := wm_X1_addChain) B.pre
  have hown : s.vm.findClass RX1 = some m.cls := findClass_of_methodNamed B.named
  have hlocks := B.notSynchronized
  subst hsz
  have hD := hD0.self (sz := s.heap.size)
  have hZ := xZ_A hZ hP hBW
  generalize hAe : va_A (xwT sk a t i q c d) s.heap.size = A at hD hZ ⊢
  have hA : ∀ q : Nat, s.heap.size ≤ q → A q := fun q h => by rw [← hAe]; exact Or.inr h
  have hS : va_S A s.heap s.heap [] := va_S.rf
  have hfi : ∀ k, k ∉ ([] : List Nat) → i k = i k := fun _ _ => rfl
  have hfc : ∀ k, k ∉ ([] : List Nat) → c k = c k := fun _ _ => rfl
  have hl := lv_entry ([.ref (a 112), .int w1, .int w2]) (n := 5) (Nat.le_of_ble_eq_true rfl)
  rw [lg_entry_eq]
  generalize (lg_sl ([.ref (a 112), .int w1, .int w2]) ++ List.replicate (5 - (lg_sl ([.ref (a 112), .int w1, .int w2])).length) Slot.unset).toArray = ls at hl ⊢
  have hl : lv_has ls 5 [(0, .ref (a 112)), (1, .int w1), (2, .int w2)] := hl
  refine lv_iload_n hx hb dX1_addChain_0 rfl (lv_at hl 2 rfl) ?_
  refine lv_istore_n (lv' := [(3, .int w2), (0, .ref (a 112)), (1, .int w1), (2, .int w2)]) hx hb dX1_addChain_1 rfl hl (by decide +kernel) rfl (fun ls hl => ?_)
  refine lv_iconst (v := 0) hx hb dX1_addChain_2 (by decide +kernel) ?_
  refine lv_istore (lv' := [(4, .int 0), (3, .int w2), (0, .ref (a 112)), (1, .int w1), (2, .int w2)]) hx hb dX1_addChain_3 hl (by decide +kernel) rfl (fun ls hl => ?_)
  have lp1 : ∀ (fu : Nat) (i1 : Nat → Int32) (q1 : Int64) (c1 : Nat → Nat → Int32) (d1 : Nat → Nat → Int64) (y1_4 : Int32) (y1_3 : Int32), xInv i1 c1 → (∀ k, k ∉ ([123] : List Nat) → i1 k = i k) → (∀ k, k ∉ ([122] : List Nat) → c1 k = c k) → (0 ≤ y1_4.toInt ∧ y1_4.toInt ≤ 30) → (y1_3.toInt = -9 ∨ (0 ≤ y1_3.toInt ∧ y1_3.toInt ≤ 29)) → (30 - y1_4.toInt).toNat < fu → ∀ (H : Heap) (locs : List Loc) (ls : Array Slot), va_P D vwCl (xwT sk a t i1 q1 c1 d1) H → va_D A (xwT sk a t i1 q1 c1 d1) → va_S A s.heap H locs → lv_has ls 5 [(4, .int y1_4), (3, .int y1_3), (0, .ref (a 112)), (1, .int w1), (2, .int w2)] → W p l e (headSpec wm_X1_addChain ({ frames := 1, cells := 0, slots := 0, locals := 22 })).room s m ([.ref (a 112), .int w1, .int w2] : List Value).toArray below meth cd H locs 0 0 (MQ below (va_Qv (fun (u : MS) => True ∧ xInv u.1 u.2.2.1 ∧ (∀ k, k ∉ ([123] : List Nat) → u.1 k = i k) ∧ (∀ k, k ∉ ([122] : List Nat) → u.2.2.1 k = c k)) (oC D A (fun u : MS => xwT sk a t u.1 u.2.1 u.2.2.1 u.2.2.2) (fun _ => [])) A) ([.ref (a 112), .int w1, .int w2] : List Value).toArray s 0 0 A) (F0 m 5 ls []) := by
    intro fu
    induction fu with
    | zero => intro i1 q1 c1 d1 y1_4 y1_3 hI hfi hfc hy1_4 hy1_3 hm; exact absurd hm (Nat.not_lt_zero _)
    | succ fu ih =>
      intro i1 q1 c1 d1 y1_4 y1_3 hI hfi hfc hy1_4 hy1_3 hm H locs ls hP hD hS hl
      have ih1 := ih
      refine lv_iload hx hb dX1_addChain_5 (lv_at hl 0 rfl) ?_
      refine lv_bipush (v := 30) hx hb dX1_addChain_7 (by decide +kernel) ?_
      refine lv_icmp_ge (tgt := 49) hx hb dX1_addChain_9 (by decide +kernel) (fun c2 => ?_) (fun c2 => ?_)
      · have f2 := (ti_le (a := 30) (b := y1_4.toInt) (by decide +kernel) rfl).mp c2
        exact rw_vret (i1, q1, c1, d1) hx hb hr hlocks hS (hK.sub (tys' := []) [] rfl) hP hD dX1_addChain_49 ⟨trivial, hI, fr_w hfi (by decide +kernel), fr_w hfc (by decide +kernel)⟩
      · have f2 := mt (ti_le (a := 30) (b := y1_4.toInt) (by decide +kernel) rfl).mpr c2
        refine lv_iload_n hx hb dX1_addChain_12 rfl (lv_at hl 1 rfl) ?_
        refine lv_iload_n hx hb dX1_addChain_13 rfl (lv_at hl 3 rfl) ?_
        refine lv_icmp_eq (tgt := 49) hx hb dX1_addChain_14 (by decide +kernel) (fun c3 => ?_) (fun c3 => ?_)
        · have f3 := (ti_eq (a := y1_3.toInt) (b := w1.toInt) rfl rfl).mp c3
          exact rw_vret (i1, q1, c1, d1) hx hb hr hlocks hS (hK.sub (tys' := []) [] rfl) hP hD dX1_addChain_49 ⟨trivial, hI, fr_w hfi (by decide +kernel), fr_w hfc (by decide +kernel)⟩
        · have f3 := mt (ti_eq (a := y1_3.toInt) (b := w1.toInt) rfl rfl).mpr c3
          refine lv_iload_n hx hb dX1_addChain_17 rfl (lv_at hl 1 rfl) ?_
          refine lv_bipush (v := (-9)) hx hb dX1_addChain_18 (by decide +kernel) ?_
          refine lv_icmp_eq (tgt := 49) hx hb dX1_addChain_20 (by decide +kernel) (fun c4 => ?_) (fun c4 => ?_)
          · have f4 := (ti_eq (a := y1_3.toInt) (b := (-9)) rfl (by decide +kernel)).mp c4
            exact rw_vret (i1, q1, c1, d1) hx hb hr hlocks hS (hK.sub (tys' := []) [] rfl) hP hD dX1_addChain_49 ⟨trivial, hI, fr_w hfi (by decide +kernel), fr_w hfc (by decide +kernel)⟩
          · have f4 := mt (ti_eq (a := y1_3.toInt) (b := (-9)) rfl (by decide +kernel)).mpr c4
            refine lv_aload_n hx hb dX1_addChain_23 rfl (lv_at hl 2 rfl) ?_
            refine lv_aload_n hx hb dX1_addChain_24 rfl (lv_at hl 2 rfl) ?_
            refine xgT_B_placeBy hx hb hts (fun _ h => List.mem_cons_of_mem _ (List.mem_append_left _ (List.mem_append_right _ h))) hown hK hP (hts (.fieldLink RX1 28 "TalePlay$Book" "placeBy" "[I") (List.mem_cons_of_mem _ (List.mem_append_left _ (List.mem_append_left _ (List.mem_of_getElem? (i := 0) rfl))))) dX1_addChain_25 ?_
            refine lv_iload_n hx hb dX1_addChain_28 rfl (lv_at hl 1 rfl) ?_
            refine xlT_118 hx hb hK hP (vp_in_iff.mpr (by have h9 : y1_3.toInt = y1_3.toInt := rfl; omega)) dX1_addChain_29 (fun x5 ex5 => ?_)
            have rx5 : x5.toInt = -9 ∨ (0 ≤ x5.toInt ∧ x5.toInt ≤ 199) := by rw [ex5]; exact hI.2 118 _
            refine al_calli (va_runV (As := [.int x5]) (rest := []) ⟨hx, hb, hml, hown, hts⟩ (x_X1_addClash l D H.size sk a t i1 q1 c1 d1 x5 hI (show x5.toInt = -9 ∨ (0 ≤ x5.toInt ∧ x5.toInt ≤ 199) from by omega)) (cwV 1 hts gm_X1_addChain_X1_addClash_121 rfl rfl rfl (by decide +kernel) ⟨Nat.le_of_ble_eq_true rfl, Nat.le_of_ble_eq_true rfl⟩) (yB_V hN (xZ_k hZ hS hA) (xZ_n hZ hD) hK hP hD (ci := 1) (q0 := 8) rfl rfl) rfl rfl hl.1 rfl (lv_room (Nat.le_of_ble_eq_true rfl)) dX1_addChain_30 ⟨Nat.le_of_ble_eq_true rfl, Nat.le_of_ble_eq_true rfl⟩) hS hA hP hD (fun r6 u6 H locs hw6 hP hD hS => ?_)
            obtain ⟨i6, q6, c6, d6⟩ := u6
            have hw6 : (0 ≤ r6.toInt ∧ r6.toInt ≤ 1) ∧ xInv i6 c6 ∧ (∀ k, k ∉ ([123] : List Nat) → i6 k = i1 k) ∧ (∀ k, k ∉ ([122] : List Nat) → c6 k = c1 k) := hw6
            obtain ⟨hw6, hI, hei6, hec6⟩ := hw6
            have hfi : ∀ k, k ∉ ([123] : List Nat) → i6 k = i k := fr_z hfi hei6 (by decide +kernel) (by decide +kernel)
            have hfc : ∀ k, k ∉ ([122] : List Nat) → c6 k = c k := fr_z hfc hec6 (by decide +kernel) (by decide +kernel)
            refine lv_pop hx hb dX1_addChain_33 rfl ?_
            refine lv_aload_n hx hb dX1_addChain_34 rfl (lv_at hl 2 rfl) ?_
            refine xgT_B_places hx hb hts (fun _ h => List.mem_cons_of_mem _ (List.mem_append_left _ (List.mem_append_right _ h))) hown hK hP (hts (.fieldLink RX1 52 "TalePlay$Book" "places" "LTalePlay$Scene;") (List.mem_cons_of_mem _ (List.mem_append_left _ (List.mem_append_left _ (List.mem_of_getElem? (i := 8) rfl))))) dX1_addChain_35 ?_
            refine lv_iload_n hx hb dX1_addChain_38 rfl (lv_at hl 1 rfl) ?_
            refine ro_calli (va_runV (As := [.int y1_3]) (rest := []) ⟨hx, hb, hml, hown, hts⟩ (x_X6_holderOf_BP l D H.size .null a t i6 q6 c6 d6 y1_3 hI (show 0 ≤ y1_3.toInt ∧ y1_3.toInt ≤ 29 from by omega)) (cwV 1 hts gm_X1_addChain_X6_holderOf_BP_143 rfl rfl rfl (by decide +kernel) ⟨Nat.le_of_ble_eq_true rfl, Nat.le_of_ble_eq_true rfl⟩) (yA_V hN (xZ_k hZ hS hA) (xkT_P0 hK) (xuT_P0 (sk := sk) hP) (ci := 6) (q0 := 0) rfl rfl) rfl rfl hl.1 rfl (lv_room (Nat.le_of_ble_eq_true rfl)) dX1_addChain_39 ⟨Nat.le_of_ble_eq_true rfl, Nat.le_of_ble_eq_true rfl⟩) hS hA hP (fun r7 u7 H locs hw7 hP hS => ?_)
            have hw7 : ((r7.toInt = -9 ∧ (c6 127 y1_3.toNatClampNeg).toInt % 256 = 255) ∨ (0 ≤ r7.toInt ∧ r7.toInt ≤ 29 ∧ ¬ (c6 127 y1_3.toNatClampNeg).toInt % 256 = 255 ∧ r7.toInt = (c6 127 y1_3.toNatClampNeg).toInt / 8 % 32)) := hw7
            refine lv_istore_n (lv' := [(3, .int r7), (4, .int y1_4), (0, .ref (a 112)), (1, .int w1), (2, .int w2)]) hx hb dX1_addChain_42 rfl hl (by decide +kernel) rfl (fun ls hl => ?_)
            obtain ⟨x8, ex8⟩ : ∃ y : Int32, y = y1_4 + 1 := ⟨_, rfl⟩
            have tx8 := ti_add (a := y1_4.toInt) (b := 1) ex8 rfl (by decide +kernel) (by omega) (by omega)
            refine lv_iinc (v := x8) (lv' := [(4, .int x8), (3, .int r7), (0, .ref (a 112)), (1, .int w1), (2, .int w2)]) hx hb dX1_addChain_43 hl (k := 1) rfl (by rw [ex8]; rfl) (by decide +kernel) rfl (fun ls hl => ?_)
            refine lv_goto (tgt := 5) hx hb dX1_addChain_46 (by decide +kernel) ?_
            exact ih1 i6 q6 c6 d6 x8 r7 hI (fr_w hfi (by decide +kernel)) (fr_w hfc (by decide +kernel)) (show 0 ≤ x8.toInt ∧ x8.toInt ≤ 30 from by have h50 : x8.toInt = (y1_4.toInt + 1) := tx8; omega) (show r7.toInt = -9 ∨ (0 ≤ r7.toInt ∧ r7.toInt ≤ 29) from by have h50 : x8.toInt = (y1_4.toInt + 1) := tx8; omega) (by have h50 : x8.toInt = (y1_4.toInt + 1) := tx8; omega) _ _ _ hP hD hS (lv_sub hl [0, 1, 2, 3, 4] rfl)
  exact lp1 _ i q c d (0 : Int32) w2 hI (fr_w hfi (by decide +kernel)) (fr_w hfc (by decide +kernel)) (show 0 ≤ (0 : Int32).toInt ∧ (0 : Int32).toInt ≤ 30 from by decide +kernel) (show w2.toInt = -9 ∨ (0 ≤ w2.toInt ∧ w2.toInt ≤ 29) from by have h50 : (0 : Int32).toInt = 0 := (by decide +kernel); omega) (Nat.lt_succ_self _) _ _ _ hP hD hS (lv_sub hl [0, 1, 2, 3, 4] rfl)

def wm_X1_isPlaceClashing : List Cond := .code yX1_isPlaceClashing cX1_isPlaceClashing 4 (some .boolean) :: ((([.fieldLink RX1 52 "TalePlay$Book" "places" "LTalePlay$Scene;", .methodLink RX1 134 yX6_isUp, .instanceMethod yX6_isUp, .selects RX6 yX6_isUp yX6_isUp, .initialized RX6, .code yX6_isUp cX6_isUp 5 (some .boolean), .methodLink RX6 25 yX6_holderOf, .instanceMethod yX6_holderOf, .selects RX6 yX6_holderOf yX6_holderOf, .code yX6_holderOf cX6_holderOf 3 (some .int), .fieldLink RX6 9 "TalePlay$Scene" "cells" "[I", .methodLink RX1 140 yX1_saying, .instanceMethod yX1_saying, .selects RX1 yX1_saying yX1_saying, .initialized RX1, .code yX1_saying cX1_saying 5 (some .int)] : List Cond) ++ ([.fieldLink RX1 34 "TalePlay$Book" "flagBy" "[I", .fieldLink RX1 21 "TalePlay$Book" "cs" "[I", .methodLink RX1 121 yX1_addClash, .instanceMethod yX1_addClash, .selects RX1 yX1_addClash yX1_addClash, .code yX1_addClash cX1_addClash 2 (some .boolean), .fieldLink RX1 118 "TalePlay$Book" "clashes" "I", .fieldLink RX1 40 "TalePlay$Book" "clashRow" "[I", .methodLink RX1 137 yX1_addChain, .instanceMethod yX1_addChain, .selects RX1 yX1_addChain yX1_addChain, .code yX1_addChain cX1_addChain 5 none, .fieldLink RX1 28 "TalePlay$Book" "placeBy" "[I", .methodLink RX1 143 yX6_holderOf] : List Cond)) ++ wsX10 ++ wsX60)
set_option maxRecDepth 20000 in
theorem gm_X1_isPlaceClashing_X6_isUp_BP_134 : GoodIn wm_X1_isPlaceClashing (wsV RX1 134 RX6 yX6_isUp wm_X6_isUp_BP) := goodIn_w (List.forall_mem_append.mpr ⟨List.forall_mem_cons.mpr ⟨List.mem_cons_of_mem _ (List.mem_append_left _ (List.mem_append_left _ (List.mem_append_left _ (List.mem_of_getElem? (i := 1) rfl)))), List.forall_mem_cons.mpr ⟨List.mem_cons_of_mem _ (List.mem_append_left _ (List.mem_append_left _ (List.mem_append_left _ (List.mem_of_getElem? (i := 2) rfl)))), List.forall_mem_cons.mpr ⟨List.mem_cons_of_mem _ (List.mem_append_left _ (List.mem_append_left _ (List.mem_append_left _ (List.mem_of_getElem? (i := 3) rfl)))), List.forall_mem_cons.mpr ⟨List.mem_cons_of_mem _ (List.mem_append_left _ (List.mem_append_left _ (List.mem_append_left _ (List.mem_of_getElem? (i := 4) rfl)))), (fun _ h => absurd h List.not_mem_nil)⟩⟩⟩⟩, List.forall_mem_cons.mpr ⟨List.mem_cons_of_mem _ (List.mem_append_left _ (List.mem_append_left _ (List.mem_append_left _ (List.mem_of_getElem? (i := 5) rfl)))), List.forall_mem_append.mpr ⟨List.forall_mem_cons.mpr ⟨List.mem_cons_of_mem _ (List.mem_append_left _ (List.mem_append_left _ (List.mem_append_left _ (List.mem_of_getElem? (i := 6) rfl)))), List.forall_mem_cons.mpr ⟨List.mem_cons_of_mem _ (List.mem_append_left _ (List.mem_append_left _ (List.mem_append_left _ (List.mem_of_getElem? (i := 7) rfl)))), List.forall_mem_cons.mpr ⟨List.mem_cons_of_mem _ (List.mem_append_left _ (List.mem_append_left _ (List.mem_append_left _ (List.mem_of_getElem? (i := 8) rfl)))), List.forall_mem_cons.mpr ⟨List.mem_cons_of_mem _ (List.mem_append_left _ (List.mem_append_left _ (List.mem_append_left _ (List.mem_of_getElem? (i := 4) rfl)))), List.forall_mem_cons.mpr ⟨List.mem_cons_of_mem _ (List.mem_append_left _ (List.mem_append_left _ (List.mem_append_left _ (List.mem_of_getElem? (i := 9) rfl)))), List.forall_mem_cons.mpr ⟨List.mem_cons_of_mem _ (List.mem_append_left _ (List.mem_append_left _ (List.mem_append_left _ (List.mem_of_getElem? (i := 10) rfl)))), (fun _ h => absurd h List.not_mem_nil)⟩⟩⟩⟩⟩⟩, (fun _ h => List.mem_cons_of_mem _ (List.mem_append_right _ h))⟩⟩⟩) (by decide +kernel)
set_option maxRecDepth 20000 in
theorem gm_X1_isPlaceClashing_X1_saying_140 : GoodIn wm_X1_isPlaceClashing (wsV RX1 140 RX1 yX1_saying wm_X1_saying) := goodIn_w (List.forall_mem_append.mpr ⟨List.forall_mem_cons.mpr ⟨List.mem_cons_of_mem _ (List.mem_append_left _ (List.mem_append_left _ (List.mem_append_left _ (List.mem_of_getElem? (i := 11) rfl)))), List.forall_mem_cons.mpr ⟨List.mem_cons_of_mem _ (List.mem_append_left _ (List.mem_append_left _ (List.mem_append_left _ (List.mem_of_getElem? (i := 12) rfl)))), List.forall_mem_cons.mpr ⟨List.mem_cons_of_mem _ (List.mem_append_left _ (List.mem_append_left _ (List.mem_append_left _ (List.mem_of_getElem? (i := 13) rfl)))), List.forall_mem_cons.mpr ⟨List.mem_cons_of_mem _ (List.mem_append_left _ (List.mem_append_left _ (List.mem_append_left _ (List.mem_of_getElem? (i := 14) rfl)))), (fun _ h => absurd h List.not_mem_nil)⟩⟩⟩⟩, List.forall_mem_cons.mpr ⟨List.mem_cons_of_mem _ (List.mem_append_left _ (List.mem_append_left _ (List.mem_append_left _ (List.mem_of_getElem? (i := 15) rfl)))), List.forall_mem_append.mpr ⟨List.forall_mem_cons.mpr ⟨List.mem_cons_of_mem _ (List.mem_append_left _ (List.mem_append_left _ (List.mem_append_right _ (List.mem_of_getElem? (i := 0) rfl)))), List.forall_mem_cons.mpr ⟨List.mem_cons_of_mem _ (List.mem_append_left _ (List.mem_append_left _ (List.mem_append_right _ (List.mem_of_getElem? (i := 1) rfl)))), (fun _ h => absurd h List.not_mem_nil)⟩⟩, (fun _ h => List.mem_cons_of_mem _ (List.mem_append_left _ (List.mem_append_right _ h)))⟩⟩⟩) (by decide +kernel)
set_option maxRecDepth 20000 in
theorem gm_X1_isPlaceClashing_X1_addClash_121 : GoodIn wm_X1_isPlaceClashing (wsV RX1 121 RX1 yX1_addClash wm_X1_addClash) := goodIn_w (List.forall_mem_append.mpr ⟨List.forall_mem_cons.mpr ⟨List.mem_cons_of_mem _ (List.mem_append_left _ (List.mem_append_left _ (List.mem_append_right _ (List.mem_of_getElem? (i := 2) rfl)))), List.forall_mem_cons.mpr ⟨List.mem_cons_of_mem _ (List.mem_append_left _ (List.mem_append_left _ (List.mem_append_right _ (List.mem_of_getElem? (i := 3) rfl)))), List.forall_mem_cons.mpr ⟨List.mem_cons_of_mem _ (List.mem_append_left _ (List.mem_append_left _ (List.mem_append_right _ (List.mem_of_getElem? (i := 4) rfl)))), List.forall_mem_cons.mpr ⟨List.mem_cons_of_mem _ (List.mem_append_left _ (List.mem_append_left _ (List.mem_append_left _ (List.mem_of_getElem? (i := 14) rfl)))), (fun _ h => absurd h List.not_mem_nil)⟩⟩⟩⟩, List.forall_mem_cons.mpr ⟨List.mem_cons_of_mem _ (List.mem_append_left _ (List.mem_append_left _ (List.mem_append_right _ (List.mem_of_getElem? (i := 5) rfl)))), List.forall_mem_append.mpr ⟨List.forall_mem_cons.mpr ⟨List.mem_cons_of_mem _ (List.mem_append_left _ (List.mem_append_left _ (List.mem_append_right _ (List.mem_of_getElem? (i := 6) rfl)))), List.forall_mem_cons.mpr ⟨List.mem_cons_of_mem _ (List.mem_append_left _ (List.mem_append_left _ (List.mem_append_right _ (List.mem_of_getElem? (i := 7) rfl)))), (fun _ h => absurd h List.not_mem_nil)⟩⟩, (fun _ h => List.mem_cons_of_mem _ (List.mem_append_left _ (List.mem_append_right _ h)))⟩⟩⟩) (by decide +kernel)
set_option maxRecDepth 20000 in
theorem gm_X1_isPlaceClashing_X1_addChain_137 : GoodIn wm_X1_isPlaceClashing (wsV RX1 137 RX1 yX1_addChain wm_X1_addChain) := goodIn_w (List.forall_mem_append.mpr ⟨List.forall_mem_cons.mpr ⟨List.mem_cons_of_mem _ (List.mem_append_left _ (List.mem_append_left _ (List.mem_append_right _ (List.mem_of_getElem? (i := 8) rfl)))), List.forall_mem_cons.mpr ⟨List.mem_cons_of_mem _ (List.mem_append_left _ (List.mem_append_left _ (List.mem_append_right _ (List.mem_of_getElem? (i := 9) rfl)))), List.forall_mem_cons.mpr ⟨List.mem_cons_of_mem _ (List.mem_append_left _ (List.mem_append_left _ (List.mem_append_right _ (List.mem_of_getElem? (i := 10) rfl)))), List.forall_mem_cons.mpr ⟨List.mem_cons_of_mem _ (List.mem_append_left _ (List.mem_append_left _ (List.mem_append_left _ (List.mem_of_getElem? (i := 14) rfl)))), (fun _ h => absurd h List.not_mem_nil)⟩⟩⟩⟩, List.forall_mem_cons.mpr ⟨List.mem_cons_of_mem _ (List.mem_append_left _ (List.mem_append_left _ (List.mem_append_right _ (List.mem_of_getElem? (i := 11) rfl)))), List.forall_mem_append.mpr ⟨List.forall_mem_append.mpr ⟨List.forall_mem_cons.mpr ⟨List.mem_cons_of_mem _ (List.mem_append_left _ (List.mem_append_left _ (List.mem_append_right _ (List.mem_of_getElem? (i := 12) rfl)))), List.forall_mem_cons.mpr ⟨List.mem_cons_of_mem _ (List.mem_append_left _ (List.mem_append_left _ (List.mem_append_right _ (List.mem_of_getElem? (i := 2) rfl)))), List.forall_mem_cons.mpr ⟨List.mem_cons_of_mem _ (List.mem_append_left _ (List.mem_append_left _ (List.mem_append_right _ (List.mem_of_getElem? (i := 3) rfl)))), List.forall_mem_cons.mpr ⟨List.mem_cons_of_mem _ (List.mem_append_left _ (List.mem_append_left _ (List.mem_append_right _ (List.mem_of_getElem? (i := 4) rfl)))), List.forall_mem_cons.mpr ⟨List.mem_cons_of_mem _ (List.mem_append_left _ (List.mem_append_left _ (List.mem_append_left _ (List.mem_of_getElem? (i := 14) rfl)))), List.forall_mem_cons.mpr ⟨List.mem_cons_of_mem _ (List.mem_append_left _ (List.mem_append_left _ (List.mem_append_right _ (List.mem_of_getElem? (i := 5) rfl)))), List.forall_mem_cons.mpr ⟨List.mem_cons_of_mem _ (List.mem_append_left _ (List.mem_append_left _ (List.mem_append_right _ (List.mem_of_getElem? (i := 6) rfl)))), List.forall_mem_cons.mpr ⟨List.mem_cons_of_mem _ (List.mem_append_left _ (List.mem_append_left _ (List.mem_append_right _ (List.mem_of_getElem? (i := 7) rfl)))), List.forall_mem_cons.mpr ⟨List.mem_cons_of_mem _ (List.mem_append_left _ (List.mem_append_left _ (List.mem_append_left _ (List.mem_of_getElem? (i := 0) rfl)))), List.forall_mem_cons.mpr ⟨List.mem_cons_of_mem _ (List.mem_append_left _ (List.mem_append_left _ (List.mem_append_right _ (List.mem_of_getElem? (i := 13) rfl)))), List.forall_mem_cons.mpr ⟨List.mem_cons_of_mem _ (List.mem_append_left _ (List.mem_append_left _ (List.mem_append_left _ (List.mem_of_getElem? (i := 7) rfl)))), List.forall_mem_cons.mpr ⟨List.mem_cons_of_mem _ (List.mem_append_left _ (List.mem_append_left _ (List.mem_append_left _ (List.mem_of_getElem? (i := 8) rfl)))), List.forall_mem_cons.mpr ⟨List.mem_cons_of_mem _ (List.mem_append_left _ (List.mem_append_left _ (List.mem_append_left _ (List.mem_of_getElem? (i := 4) rfl)))), List.forall_mem_cons.mpr ⟨List.mem_cons_of_mem _ (List.mem_append_left _ (List.mem_append_left _ (List.mem_append_left _ (List.mem_of_getElem? (i := 9) rfl)))), List.forall_mem_cons.mpr ⟨List.mem_cons_of_mem _ (List.mem_append_left _ (List.mem_append_left _ (List.mem_append_left _ (List.mem_of_getElem? (i := 10) rfl)))), (fun _ h => absurd h List.not_mem_nil)⟩⟩⟩⟩⟩⟩⟩⟩⟩⟩⟩⟩⟩⟩⟩, (fun _ h => List.mem_cons_of_mem _ (List.mem_append_left _ (List.mem_append_right _ h)))⟩, (fun _ h => List.mem_cons_of_mem _ (List.mem_append_right _ h))⟩⟩⟩) (by decide +kernel)
set_option maxHeartbeats 4000000 in
set_option maxRecDepth 100000 in
theorem x_X1_isPlaceClashing (l : Launch) (D : va_G) (sz : Nat) (sk : Value) (a : Nat → Nat) (t : Nat → ClassId) (i : Nat → Int32) (q : Int64) (c : Nat → Nat → Int32) (d : Nat → Nat → Int64) (f : Int32) (w1 : Int32) (w2 : Int32) (hI : xInv i c) (hw1 : 0 ≤ w1.toInt ∧ w1.toInt ≤ 29) (hw2 : 0 ≤ w2.toInt ∧ w2.toInt ≤ 29) : Met l yX1_isPlaceClashing wm_X1_isPlaceClashing ({ frames := 2, cells := 0, slots := 0, locals := 46 }) (va_Pc [.ref (a 112), .int f, .int w1, .int w2] (yB (a 186) D sz (xwT sk a t i q c d) (xtT t))) (va_Qi (fun (r : Int32) (u : MS) => (0 ≤ r.toInt ∧ r.toInt ≤ 1) ∧ xInv u.1 u.2.2.1 ∧ (∀ k, k ∉ ([123] : List Nat) → u.1 k = i k) ∧ (∀ k, k ∉ ([122] : List Nat) → u.2.2.1 k = c k)) (oC D (va_A (xwT sk a t i q c d) sz) (fun u : MS => xwT sk a t u.1 u.2.1 u.2.2.1 u.2.2.2) (fun _ => [])) (va_A (xwT sk a t i q c d) sz)) 0 0 (va_A (xwT sk a t i q c d) sz) := by
  refine Met.ofW (cc := cX1_isPlaceClashing) (maxL := 4) (ret := (some .boolean)) (by decide +kernel) rfl ?_
  intro p e s m args below meth cd s₁ B hml hv
  obtain ⟨rfl, ⟨hsz, hP, hK, hD0⟩, hN, hZ, hBW⟩ := hv
  have hx := B.exec
  have hb := B.bytes
  have hr := B.returns
  have hts := atoms_spec (ws := wm_X1_isPlaceClashing) B.pre
  have hown : s.vm.findClass RX1 = some m.cls := findClass_of_methodNamed B.named
  have hlocks := B.notSynchronized
  subst hsz
  have hD := hD0.self (sz := s.heap.size)
  have hZ := xZ_A hZ hP hBW
  generalize hAe : va_A (xwT sk a t i q c d) s.heap.size = A at hD hZ ⊢
  have hA : ∀ q : Nat, s.heap.size ≤ q → A q := fun q h => by rw [← hAe]; exact Or.inr h
  have hS : va_S A s.heap s.heap [] := va_S.rf
  have hfi : ∀ k, k ∉ ([] : List Nat) → i k = i k := fun _ _ => rfl
  have hfc : ∀ k, k ∉ ([] : List Nat) → c k = c k := fun _ _ => rfl
  have hl := lv_entry ([.ref (a 112), .int f, .int w1, .int w2]) (n := 4) (Nat.le_of_ble_eq_true rfl)
  rw [lg_entry_eq]
  generalize (lg_sl ([.ref (a 112), .int f, .int w1, .int w2]) ++ List.replicate (4 - (lg_sl ([.ref (a 112), .int f, .int w1, .int w2])).length) Slot.unset).toArray = ls at hl ⊢
  have hl : lv_has ls 4 [(0, .ref (a 112)), (1, .int f), (2, .int w1), (3, .int w2)] := hl
  refine lv_iload_n hx hb dX1_isPlaceClashing_0 rfl (lv_at hl 2 rfl) ?_
  refine lv_iload_n hx hb dX1_isPlaceClashing_1 rfl (lv_at hl 3 rfl) ?_
  refine lv_icmp_ne (tgt := 7) hx hb dX1_isPlaceClashing_2 (by decide +kernel) (fun c1 => ?_) (fun c1 => ?_)
  · have f1 := mt (ti_eq (a := w1.toInt) (b := w2.toInt) rfl rfl).mpr c1
    refine lv_aload_n hx hb dX1_isPlaceClashing_7 rfl (lv_at hl 0 rfl) ?_
    refine xgT_B_places hx hb hts (fun _ h => List.mem_cons_of_mem _ (List.mem_append_left _ (List.mem_append_right _ h))) hown hK hP (hts (.fieldLink RX1 52 "TalePlay$Book" "places" "LTalePlay$Scene;") (List.mem_cons_of_mem _ (List.mem_append_left _ (List.mem_append_left _ (List.mem_append_left _ (List.mem_of_getElem? (i := 0) rfl)))))) dX1_isPlaceClashing_8 ?_
    refine lv_iload_n hx hb dX1_isPlaceClashing_11 rfl (lv_at hl 2 rfl) ?_
    refine lv_iload_n hx hb dX1_isPlaceClashing_12 rfl (lv_at hl 3 rfl) ?_
    refine ro_calli (va_runV (As := [.int w1, .int w2]) (rest := []) ⟨hx, hb, hml, hown, hts⟩ (x_X6_isUp_BP l D s.heap.size .null a t i q c d w1 w2 hI (show 0 ≤ w2.toInt ∧ w2.toInt ≤ 29 from by omega)) (cwV 2 hts gm_X1_isPlaceClashing_X6_isUp_BP_134 rfl rfl rfl (by decide +kernel) ⟨Nat.le_of_ble_eq_true rfl, Nat.le_of_ble_eq_true rfl⟩) (yA_V hN (xZ_k hZ hS hA) (xkT_P0 hK) (xuT_P0 (sk := sk) hP) (ci := 6) (q0 := 0) rfl rfl) rfl rfl hl.1 rfl (lv_room (Nat.le_of_ble_eq_true rfl)) dX1_isPlaceClashing_13 ⟨Nat.le_of_ble_eq_true rfl, Nat.le_of_ble_eq_true rfl⟩) hS hA hP (fun r2 u2 H locs hw2 hP hS => ?_)
    have hw2 : (0 ≤ r2.toInt ∧ r2.toInt ≤ 1) := hw2
    refine lv_if_eq (tgt := 27) hx hb dX1_isPlaceClashing_16 (by decide +kernel) (fun c3 => ?_) (fun c3 => ?_)
    · have f3 := (ti_eq (a := r2.toInt) (b := 0) rfl (by decide +kernel)).mp c3
      refine lv_iload_n hx hb dX1_isPlaceClashing_27 rfl (lv_at hl 1 rfl) ?_
      refine lv_iconst (v := 3) hx hb dX1_isPlaceClashing_28 (by decide +kernel) ?_
      refine lv_icmp_ne (tgt := 50) hx hb dX1_isPlaceClashing_29 (by decide +kernel) (fun c4 => ?_) (fun c4 => ?_)
      · have f4 := mt (ti_eq (a := f.toInt) (b := 3) rfl (by decide +kernel)).mpr c4
        refine lv_iconst (v := 0) hx hb dX1_isPlaceClashing_50 (by decide +kernel) ?_
        exact rw_zret (i, q, c, d) hx hb hr hlocks hS (hK.sub (tys' := []) [] rfl) hP hD rfl dX1_isPlaceClashing_51 ⟨(show 0 ≤ (0 : Int32).toInt ∧ (0 : Int32).toInt ≤ 1 from by decide +kernel), hI, fr_w hfi (by decide +kernel), fr_w hfc (by decide +kernel)⟩
      · have f4 := (ti_eq (a := f.toInt) (b := 3) rfl (by decide +kernel)).mp c4
        refine lv_aload_n hx hb dX1_isPlaceClashing_32 rfl (lv_at hl 0 rfl) ?_
        refine lv_aload_n hx hb dX1_isPlaceClashing_33 rfl (lv_at hl 0 rfl) ?_
        refine lv_iload_n hx hb dX1_isPlaceClashing_34 rfl (lv_at hl 2 rfl) ?_
        refine lv_iconst (v := 4) hx hb dX1_isPlaceClashing_35 (by decide +kernel) ?_
        refine lv_iconst (v := 0) hx hb dX1_isPlaceClashing_36 (by decide +kernel) ?_
        refine ro_calli (va_runV (As := [.int w1, .int 4, .int 0]) (rest := [.ref (a 112)]) ⟨hx, hb, hml, hown, hts⟩ (x_X1_saying l D H.size .null a t i q c d w1 4 0 hI (show 0 ≤ w1.toInt ∧ w1.toInt ≤ 29 from by have h91 : (4 : Int32).toInt = 4 := (by decide +kernel); have h92 : (0 : Int32).toInt = 0 := (by decide +kernel); omega) (show 0 ≤ 4 ∧ 4 ≤ 5 from by decide +kernel)) (cwV 3 hts gm_X1_isPlaceClashing_X1_saying_140 rfl rfl rfl (by decide +kernel) ⟨Nat.le_of_ble_eq_true rfl, Nat.le_of_ble_eq_true rfl⟩) (yA_V hN (xZ_k hZ hS hA) (xkT_B hK) (xuT_B (sk := sk) hP) (ci := 1) (q0 := 6) rfl rfl) rfl rfl hl.1 rfl (lv_room (Nat.le_of_ble_eq_true rfl)) dX1_isPlaceClashing_37 ⟨Nat.le_of_ble_eq_true rfl, Nat.le_of_ble_eq_true rfl⟩) hS hA hP (fun r5 u5 H locs hw5 hP hS => ?_)
        have hw5 : (r5.toInt = -9 ∨ (0 ≤ r5.toInt ∧ r5.toInt ≤ 199)) := hw5
        refine al_calli (va_runV (As := [.int r5]) (rest := []) ⟨hx, hb, hml, hown, hts⟩ (x_X1_addClash l D H.size sk a t i q c d r5 hI (show r5.toInt = -9 ∨ (0 ≤ r5.toInt ∧ r5.toInt ≤ 199) from by omega)) (cwV 1 hts gm_X1_isPlaceClashing_X1_addClash_121 rfl rfl rfl (by decide +kernel) ⟨Nat.le_of_ble_eq_true rfl, Nat.le_of_ble_eq_true rfl⟩) (yB_V hN (xZ_k hZ hS hA) (xZ_n hZ hD) hK hP hD (ci := 1) (q0 := 8) rfl rfl) rfl rfl hl.1 rfl (lv_room (Nat.le_of_ble_eq_true rfl)) dX1_isPlaceClashing_40 ⟨Nat.le_of_ble_eq_true rfl, Nat.le_of_ble_eq_true rfl⟩) hS hA hP hD (fun r6 u6 H locs hw6 hP hD hS => ?_)
        obtain ⟨i6, q6, c6, d6⟩ := u6
        have hw6 : (0 ≤ r6.toInt ∧ r6.toInt ≤ 1) ∧ xInv i6 c6 ∧ (∀ k, k ∉ ([123] : List Nat) → i6 k = i k) ∧ (∀ k, k ∉ ([122] : List Nat) → c6 k = c k) := hw6
        obtain ⟨hw6, hI, hei6, hec6⟩ := hw6
        have hfi : ∀ k, k ∉ ([123] : List Nat) → i6 k = i k := fr_z hfi hei6 (by decide +kernel) (by decide +kernel)
        have hfc : ∀ k, k ∉ ([122] : List Nat) → c6 k = c k := fr_z hfc hec6 (by decide +kernel) (by decide +kernel)
        refine lv_if_eq (tgt := 50) hx hb dX1_isPlaceClashing_43 (by decide +kernel) (fun c7 => ?_) (fun c7 => ?_)
        · have f7 := (ti_eq (a := r6.toInt) (b := 0) rfl (by decide +kernel)).mp c7
          refine lv_iconst (v := 0) hx hb dX1_isPlaceClashing_50 (by decide +kernel) ?_
          exact rw_zret (i6, q6, c6, d6) hx hb hr hlocks hS (hK.sub (tys' := []) [] rfl) hP hD rfl dX1_isPlaceClashing_51 ⟨(show 0 ≤ (0 : Int32).toInt ∧ (0 : Int32).toInt ≤ 1 from by decide +kernel), hI, fr_w hfi (by decide +kernel), fr_w hfc (by decide +kernel)⟩
        · have f7 := mt (ti_eq (a := r6.toInt) (b := 0) rfl (by decide +kernel)).mpr c7
          refine lv_iconst (v := 1) hx hb dX1_isPlaceClashing_46 (by decide +kernel) ?_
          refine lv_goto (tgt := 51) hx hb dX1_isPlaceClashing_47 (by decide +kernel) ?_
          exact rw_zret (i6, q6, c6, d6) hx hb hr hlocks hS (hK.sub (tys' := []) [] rfl) hP hD rfl dX1_isPlaceClashing_51 ⟨(show 0 ≤ (1 : Int32).toInt ∧ (1 : Int32).toInt ≤ 1 from by decide +kernel), hI, fr_w hfi (by decide +kernel), fr_w hfc (by decide +kernel)⟩
    · have f3 := mt (ti_eq (a := r2.toInt) (b := 0) rfl (by decide +kernel)).mpr c3
      refine lv_aload_n hx hb dX1_isPlaceClashing_19 rfl (lv_at hl 0 rfl) ?_
      refine lv_iload_n hx hb dX1_isPlaceClashing_20 rfl (lv_at hl 2 rfl) ?_
      refine lv_iload_n hx hb dX1_isPlaceClashing_21 rfl (lv_at hl 3 rfl) ?_
      refine al_callv (va_runV (As := [.int w1, .int w2]) (rest := []) ⟨hx, hb, hml, hown, hts⟩ (x_X1_addChain l D H.size sk a t i q c d w1 w2 hI (show 0 ≤ w2.toInt ∧ w2.toInt ≤ 29 from by omega)) (cwV 2 hts gm_X1_isPlaceClashing_X1_addChain_137 rfl rfl rfl (by decide +kernel) ⟨Nat.le_of_ble_eq_true rfl, Nat.le_of_ble_eq_true rfl⟩) (yB_V hN (xZ_k hZ hS hA) (xZ_n hZ hD) hK hP hD (ci := 1) (q0 := 8) rfl rfl) rfl rfl hl.1 rfl (lv_room (Nat.le_of_ble_eq_true rfl)) dX1_isPlaceClashing_22 ⟨Nat.le_of_ble_eq_true rfl, Nat.le_of_ble_eq_true rfl⟩) hS hA hP hD (fun u8 H locs hw8 hP hD hS => ?_)
      obtain ⟨i8, q8, c8, d8⟩ := u8
      have hw8 : True ∧ xInv i8 c8 ∧ (∀ k, k ∉ ([123] : List Nat) → i8 k = i k) ∧ (∀ k, k ∉ ([122] : List Nat) → c8 k = c k) := hw8
      obtain ⟨hw8, hI, hei8, hec8⟩ := hw8
      have hfi : ∀ k, k ∉ ([123] : List Nat) → i8 k = i k := fr_z hfi hei8 (by decide +kernel) (by decide +kernel)
      have hfc : ∀ k, k ∉ ([122] : List Nat) → c8 k = c k := fr_z hfc hec8 (by decide +kernel) (by decide +kernel)
      refine lv_iconst (v := 1) hx hb dX1_isPlaceClashing_25 (by decide +kernel) ?_
      exact rw_zret (i8, q8, c8, d8) hx hb hr hlocks hS (hK.sub (tys' := []) [] rfl) hP hD rfl dX1_isPlaceClashing_26 ⟨(show 0 ≤ (1 : Int32).toInt ∧ (1 : Int32).toInt ≤ 1 from by decide +kernel), hI, fr_w hfi (by decide +kernel), fr_w hfc (by decide +kernel)⟩
  · have f1 := (ti_eq (a := w1.toInt) (b := w2.toInt) rfl rfl).mp c1
    refine lv_iconst (v := 1) hx hb dX1_isPlaceClashing_5 (by decide +kernel) ?_
    exact rw_zret (i, q, c, d) hx hb hr hlocks hS (hK.sub (tys' := []) [] rfl) hP hD rfl dX1_isPlaceClashing_6 ⟨(show 0 ≤ (1 : Int32).toInt ∧ (1 : Int32).toInt ≤ 1 from by decide +kernel), hI, fr_w hfi (by decide +kernel), fr_w hfc (by decide +kernel)⟩

def wm_X1_isDoorClashing : List Cond := .code yX1_isDoorClashing cX1_isDoorClashing 5 (some .boolean) :: (([.fieldLink RX1 92 "TalePlay$Book" "total" "I", .fieldLink RX1 118 "TalePlay$Book" "clashes" "I", .methodLink RX1 146 yX1_clearClash, .instanceMethod yX1_clearClash, .selects RX1 yX1_clearClash yX1_clearClash, .initialized RX1, .code yX1_clearClash cX1_clearClash 1 none, .fieldLink RX1 24 "TalePlay$Book" "said" "[Z", .fieldLink RX1 9 "TalePlay$Book" "forms" "[I", .fieldLink RX1 18 "TalePlay$Book" "bs" "[I", .methodLink RX1 121 yX1_addClash, .instanceMethod yX1_addClash, .selects RX1 yX1_addClash yX1_addClash, .code yX1_addClash cX1_addClash 2 (some .boolean), .fieldLink RX1 40 "TalePlay$Book" "clashRow" "[I", .fieldLink RX1 31 "TalePlay$Book" "exitBy" "[I"] : List Cond) ++ wsX10)
set_option maxRecDepth 20000 in
theorem gm_X1_isDoorClashing_X1_clearClash_146 : GoodIn wm_X1_isDoorClashing (wsV RX1 146 RX1 yX1_clearClash wm_X1_clearClash) := goodIn_w (List.forall_mem_append.mpr ⟨List.forall_mem_cons.mpr ⟨List.mem_cons_of_mem _ (List.mem_append_left _ (List.mem_of_getElem? (i := 2) rfl)), List.forall_mem_cons.mpr ⟨List.mem_cons_of_mem _ (List.mem_append_left _ (List.mem_of_getElem? (i := 3) rfl)), List.forall_mem_cons.mpr ⟨List.mem_cons_of_mem _ (List.mem_append_left _ (List.mem_of_getElem? (i := 4) rfl)), List.forall_mem_cons.mpr ⟨List.mem_cons_of_mem _ (List.mem_append_left _ (List.mem_of_getElem? (i := 5) rfl)), (fun _ h => absurd h List.not_mem_nil)⟩⟩⟩⟩, List.forall_mem_cons.mpr ⟨List.mem_cons_of_mem _ (List.mem_append_left _ (List.mem_of_getElem? (i := 6) rfl)), List.forall_mem_append.mpr ⟨List.forall_mem_cons.mpr ⟨List.mem_cons_of_mem _ (List.mem_append_left _ (List.mem_of_getElem? (i := 1) rfl)), (fun _ h => absurd h List.not_mem_nil)⟩, (fun _ h => List.mem_cons_of_mem _ (List.mem_append_right _ h))⟩⟩⟩) (by decide +kernel)
set_option maxRecDepth 20000 in
theorem gm_X1_isDoorClashing_X1_addClash_121 : GoodIn wm_X1_isDoorClashing (wsV RX1 121 RX1 yX1_addClash wm_X1_addClash) := goodIn_w (List.forall_mem_append.mpr ⟨List.forall_mem_cons.mpr ⟨List.mem_cons_of_mem _ (List.mem_append_left _ (List.mem_of_getElem? (i := 10) rfl)), List.forall_mem_cons.mpr ⟨List.mem_cons_of_mem _ (List.mem_append_left _ (List.mem_of_getElem? (i := 11) rfl)), List.forall_mem_cons.mpr ⟨List.mem_cons_of_mem _ (List.mem_append_left _ (List.mem_of_getElem? (i := 12) rfl)), List.forall_mem_cons.mpr ⟨List.mem_cons_of_mem _ (List.mem_append_left _ (List.mem_of_getElem? (i := 5) rfl)), (fun _ h => absurd h List.not_mem_nil)⟩⟩⟩⟩, List.forall_mem_cons.mpr ⟨List.mem_cons_of_mem _ (List.mem_append_left _ (List.mem_of_getElem? (i := 13) rfl)), List.forall_mem_append.mpr ⟨List.forall_mem_cons.mpr ⟨List.mem_cons_of_mem _ (List.mem_append_left _ (List.mem_of_getElem? (i := 1) rfl)), List.forall_mem_cons.mpr ⟨List.mem_cons_of_mem _ (List.mem_append_left _ (List.mem_of_getElem? (i := 14) rfl)), (fun _ h => absurd h List.not_mem_nil)⟩⟩, (fun _ h => List.mem_cons_of_mem _ (List.mem_append_right _ h))⟩⟩⟩) (by decide +kernel)
set_option maxHeartbeats 4000000 in
set_option maxRecDepth 100000 in
theorem x_X1_isDoorClashing (l : Launch) (D : va_G) (sz : Nat) (sk : Value) (a : Nat → Nat) (t : Nat → ClassId) (i : Nat → Int32) (q : Int64) (c : Nat → Nat → Int32) (d : Nat → Nat → Int64) (w1 : Int32) (w2 : Int32) (hI : xInv i c) (hw1 : 0 ≤ w1.toInt ∧ w1.toInt ≤ 29) (hw2 : 0 ≤ w2.toInt ∧ w2.toInt ≤ 29) : Met l yX1_isDoorClashing wm_X1_isDoorClashing ({ frames := 1, cells := 0, slots := 0, locals := 21 }) (va_Pc [.ref (a 112), .int w1, .int w2] (yB (a 186) D sz (xwT sk a t i q c d) (xtT t))) (va_Qi (fun (r : Int32) (u : MS) => (0 ≤ r.toInt ∧ r.toInt ≤ 1) ∧ xInv u.1 u.2.2.1 ∧ (∀ k, k ∉ ([123] : List Nat) → u.1 k = i k) ∧ (∀ k, k ∉ ([122] : List Nat) → u.2.2.1 k = c k)) (oC D (va_A (xwT sk a t i q c d) sz) (fun u : MS => xwT sk a t u.1 u.2.1 u.2.2.1 u.2.2.2) (fun _ => [])) (va_A (xwT sk a t i q c d) sz)) 0 0 (va_A (xwT sk a t i q c d) sz) := by
  refine Met.ofW (cc := cX1_isDoorClashing) (maxL := 5) (ret := (some .boolean)) (by decide +kernel) rfl ?_
  intro p e s m args below meth cd s₁ B hml hv
  obtain ⟨rfl, ⟨hsz, hP, hK, hD0⟩, hN, hZ, hBW⟩ := hv
  have hx := B.exec
  have hb := B.bytes
  have hr := B.returns
  have hts := atoms_spec (ws := wm_X1_isDoorClashing) B.pre
  have hown : s.vm.findClass RX1 = some m.cls := findClass_of_methodNamed B.named
  have hlocks := B.notSynchronized
  subst hsz
  have hD := hD0.self (sz := s.heap.size)
  have hZ := xZ_A hZ hP hBW
  generalize hAe : va_A (xwT sk a t i q c d) s.heap.size = A at hD hZ ⊢
  have hA : ∀ q : Nat, s.heap.size ≤ q → A q := fun q h => by rw [← hAe]; exact Or.inr h
  have hS : va_S A s.heap s.heap [] := va_S.rf
  have hfi : ∀ k, k ∉ ([] : List Nat) → i k = i k := fun _ _ => rfl
  have hfc : ∀ k, k ∉ ([] : List Nat) → c k = c k := fun _ _ => rfl
  have hl := lv_entry ([.ref (a 112), .int w1, .int w2]) (n := 5) (Nat.le_of_ble_eq_true rfl)
  rw [lg_entry_eq]
  generalize (lg_sl ([.ref (a 112), .int w1, .int w2]) ++ List.replicate (5 - (lg_sl ([.ref (a 112), .int w1, .int w2])).length) Slot.unset).toArray = ls at hl ⊢
  have hl : lv_has ls 5 [(0, .ref (a 112)), (1, .int w1), (2, .int w2)] := hl
  refine lv_iconst (v := 0) hx hb dX1_isDoorClashing_0 (by decide +kernel) ?_
  refine lv_istore_n (lv' := [(3, .int 0), (0, .ref (a 112)), (1, .int w1), (2, .int w2)]) hx hb dX1_isDoorClashing_1 rfl hl (by decide +kernel) rfl (fun ls hl => ?_)
  have lp1 : ∀ (fu : Nat) (y1_3 : Int32), (0 ≤ y1_3.toInt ∧ y1_3.toInt ≤ 10) → (10 - y1_3.toInt).toNat < fu → ∀ (H : Heap) (locs : List Loc) (ls : Array Slot), va_P D vwCl (xwT sk a t i q c d) H → va_D A (xwT sk a t i q c d) → va_S A s.heap H locs → lv_has ls 5 [(3, .int y1_3), (0, .ref (a 112)), (1, .int w1), (2, .int w2)] → W p l e (headSpec wm_X1_isDoorClashing ({ frames := 1, cells := 0, slots := 0, locals := 21 })).room s m ([.ref (a 112), .int w1, .int w2] : List Value).toArray below meth cd H locs 0 0 (MQ below (va_Qi (fun (r : Int32) (u : MS) => (0 ≤ r.toInt ∧ r.toInt ≤ 1) ∧ xInv u.1 u.2.2.1 ∧ (∀ k, k ∉ ([123] : List Nat) → u.1 k = i k) ∧ (∀ k, k ∉ ([122] : List Nat) → u.2.2.1 k = c k)) (oC D A (fun u : MS => xwT sk a t u.1 u.2.1 u.2.2.1 u.2.2.2) (fun _ => [])) A) ([.ref (a 112), .int w1, .int w2] : List Value).toArray s 0 0 A) (F0 m 2 ls []) := by
    intro fu
    induction fu with
    | zero => intro y1_3 hy1_3 hm; exact absurd hm (Nat.not_lt_zero _)
    | succ fu ih =>
      intro y1_3 hy1_3 hm H locs ls hP hD hS hl
      have ih1 := ih
      refine lv_iload_n hx hb dX1_isDoorClashing_2 rfl (lv_at hl 0 rfl) ?_
      refine lv_bipush (v := 10) hx hb dX1_isDoorClashing_3 (by decide +kernel) ?_
      refine lv_icmp_ge (tgt := 52) hx hb dX1_isDoorClashing_5 (by decide +kernel) (fun c2 => ?_) (fun c2 => ?_)
      · have f2 := (ti_le (a := 10) (b := y1_3.toInt) (by decide +kernel) rfl).mp c2
        refine lv_iconst (v := 0) hx hb dX1_isDoorClashing_52 (by decide +kernel) ?_
        refine lv_istore_n (lv' := [(3, .int 0), (0, .ref (a 112)), (1, .int w1), (2, .int w2)]) hx hb dX1_isDoorClashing_53 rfl hl (by decide +kernel) rfl (fun ls hl => ?_)
        have lp3 : ∀ (fu : Nat) (i3 : Nat → Int32) (q3 : Int64) (c3 : Nat → Nat → Int32) (d3 : Nat → Nat → Int64) (y3_3 : Int32), xInv i3 c3 → (∀ k, k ∉ ([123] : List Nat) → i3 k = i k) → (∀ k, k ∉ ([122] : List Nat) → c3 k = c k) → (0 ≤ y3_3.toInt ∧ y3_3.toInt ≤ 200) → (200 - y3_3.toInt).toNat < fu → ∀ (H : Heap) (locs : List Loc) (ls : Array Slot), va_P D vwCl (xwT sk a t i3 q3 c3 d3) H → va_D A (xwT sk a t i3 q3 c3 d3) → va_S A s.heap H locs → lv_has ls 5 [(3, .int y3_3), (0, .ref (a 112)), (1, .int w1), (2, .int w2)] → W p l e (headSpec wm_X1_isDoorClashing ({ frames := 1, cells := 0, slots := 0, locals := 21 })).room s m ([.ref (a 112), .int w1, .int w2] : List Value).toArray below meth cd H locs 0 0 (MQ below (va_Qi (fun (r : Int32) (u : MS) => (0 ≤ r.toInt ∧ r.toInt ≤ 1) ∧ xInv u.1 u.2.2.1 ∧ (∀ k, k ∉ ([123] : List Nat) → u.1 k = i k) ∧ (∀ k, k ∉ ([122] : List Nat) → u.2.2.1 k = c k)) (oC D A (fun u : MS => xwT sk a t u.1 u.2.1 u.2.2.1 u.2.2.2) (fun _ => [])) A) ([.ref (a 112), .int w1, .int w2] : List Value).toArray s 0 0 A) (F0 m 54 ls []) := by
          intro fu
          induction fu with
          | zero => intro i3 q3 c3 d3 y3_3 hI hfi hfc hy3_3 hm; exact absurd hm (Nat.not_lt_zero _)
          | succ fu ih =>
            intro i3 q3 c3 d3 y3_3 hI hfi hfc hy3_3 hm H locs ls hP hD hS hl
            have ih3 := ih
            refine lv_iload_n hx hb dX1_isDoorClashing_54 rfl (lv_at hl 0 rfl) ?_
            refine lv_aload_n hx hb dX1_isDoorClashing_55 rfl (lv_at hl 1 rfl) ?_
            refine xgT_B_total (v := (i3 124)) rfl hx hb hts (fun _ h => List.mem_cons_of_mem _ (List.mem_append_right _ h)) hown hK hP (hts (.fieldLink RX1 92 "TalePlay$Book" "total" "I") (List.mem_cons_of_mem _ (List.mem_append_left _ (List.mem_of_getElem? (i := 0) rfl)))) dX1_isDoorClashing_56 ?_
            have rb124_i3 : 0 ≤ (i3 124).toInt ∧ (i3 124).toInt ≤ 200 := hI.1 124
            have re124_i3 : (i3 124).toInt = (i 124).toInt := congrArg Int32.toInt (hfi 124 (by decide +kernel))
            refine lv_icmp_ge (tgt := 103) hx hb dX1_isDoorClashing_59 (by decide +kernel) (fun c4 => ?_) (fun c4 => ?_)
            · have f4 := (ti_le (a := (i3 124).toInt) (b := y3_3.toInt) rfl rfl).mp c4
              refine lv_aload_n hx hb dX1_isDoorClashing_103 rfl (lv_at hl 1 rfl) ?_
              refine xgT_B_clashes (v := (i3 123)) rfl hx hb hts (fun _ h => List.mem_cons_of_mem _ (List.mem_append_right _ h)) hown hK hP (hts (.fieldLink RX1 118 "TalePlay$Book" "clashes" "I") (List.mem_cons_of_mem _ (List.mem_append_left _ (List.mem_of_getElem? (i := 1) rfl)))) dX1_isDoorClashing_104 ?_
              have rb123_i3 : 0 ≤ (i3 123).toInt ∧ (i3 123).toInt ≤ 30 := hI.1 123
              refine lv_iconst (v := 2) hx hb dX1_isDoorClashing_107 (by decide +kernel) ?_
              refine lv_icmp_lt (tgt := 113) hx hb dX1_isDoorClashing_108 (by decide +kernel) (fun c5 => ?_) (fun c5 => ?_)
              · have f5 := (ti_lt (a := (i3 123).toInt) (b := 2) rfl (by decide +kernel)).mp c5
                refine lv_aload_n hx hb dX1_isDoorClashing_113 rfl (lv_at hl 1 rfl) ?_
                refine al_callv (va_runV (As := []) (rest := []) ⟨hx, hb, hml, hown, hts⟩ (x_X1_clearClash l D H.size sk a t i3 q3 c3 d3  hI ) (cwV 0 hts gm_X1_isDoorClashing_X1_clearClash_146 rfl rfl rfl (by decide +kernel) ⟨Nat.le_of_ble_eq_true rfl, Nat.le_of_ble_eq_true rfl⟩) (yB_V hN (xZ_k hZ hS hA) (xZ_n hZ hD) hK hP hD (ci := 1) (q0 := 8) rfl rfl) rfl rfl hl.1 rfl (lv_room (Nat.le_of_ble_eq_true rfl)) dX1_isDoorClashing_114 ⟨Nat.le_of_ble_eq_true rfl, Nat.le_of_ble_eq_true rfl⟩) hS hA hP hD (fun u6 H locs hw6 hP hD hS => ?_)
                obtain ⟨i6, q6, c6, d6⟩ := u6
                have hw6 : True ∧ xInv i6 c6 ∧ (∀ k, k ∉ ([123] : List Nat) → i6 k = i3 k) ∧ (∀ k, k ∉ ([] : List Nat) → c6 k = c3 k) := hw6
                obtain ⟨hw6, hI, hei6, hec6⟩ := hw6
                have hfi : ∀ k, k ∉ ([123] : List Nat) → i6 k = i k := fr_z hfi hei6 (by decide +kernel) (by decide +kernel)
                have hfc : ∀ k, k ∉ ([122] : List Nat) → c6 k = c k := fr_z hfc hec6 (by decide +kernel) (by decide +kernel)
                refine lv_iconst (v := 0) hx hb dX1_isDoorClashing_117 (by decide +kernel) ?_
                exact rw_zret (i6, q6, c6, d6) hx hb hr hlocks hS (hK.sub (tys' := []) [] rfl) hP hD rfl dX1_isDoorClashing_118 ⟨(show 0 ≤ (0 : Int32).toInt ∧ (0 : Int32).toInt ≤ 1 from by decide +kernel), hI, fr_w hfi (by decide +kernel), fr_w hfc (by decide +kernel)⟩
              · have f5 := mt (ti_lt (a := (i3 123).toInt) (b := 2) rfl (by decide +kernel)).mpr c5
                refine lv_iconst (v := 1) hx hb dX1_isDoorClashing_111 (by decide +kernel) ?_
                exact rw_zret (i3, q3, c3, d3) hx hb hr hlocks hS (hK.sub (tys' := []) [] rfl) hP hD rfl dX1_isDoorClashing_112 ⟨(show 0 ≤ (1 : Int32).toInt ∧ (1 : Int32).toInt ≤ 1 from by decide +kernel), hI, fr_w hfi (by decide +kernel), fr_w hfc (by decide +kernel)⟩
            · have f4 := mt (ti_le (a := (i3 124).toInt) (b := y3_3.toInt) rfl rfl).mpr c4
              refine lv_aload_n hx hb dX1_isDoorClashing_62 rfl (lv_at hl 1 rfl) ?_
              refine xgT_B_said hx hb hts (fun _ h => List.mem_cons_of_mem _ (List.mem_append_right _ h)) hown hK hP (hts (.fieldLink RX1 24 "TalePlay$Book" "said" "[Z") (List.mem_cons_of_mem _ (List.mem_append_left _ (List.mem_of_getElem? (i := 7) rfl)))) dX1_isDoorClashing_63 ?_
              refine lv_iload_n hx hb dX1_isDoorClashing_66 rfl (lv_at hl 0 rfl) ?_
              refine xlT_117 hx hb hK hP (vp_in_iff.mpr (by have h9 : y3_3.toInt = y3_3.toInt := rfl; omega)) dX1_isDoorClashing_67 (fun x7 ex7 => ?_)
              have rx7 : 0 ≤ x7.toInt ∧ x7.toInt ≤ 1 := by rw [ex7]; exact hI.2 117 _
              have jn8 : ∀ (i8 : Nat → Int32) (q8 : Int64) (c8 : Nat → Nat → Int32) (d8 : Nat → Nat → Int64), xInv i8 c8 → (∀ k, k ∉ ([123] : List Nat) → i8 k = i k) → (∀ k, k ∉ ([122] : List Nat) → c8 k = c k) → ∀ (H : Heap) (locs : List Loc) (ls : Array Slot), va_P D vwCl (xwT sk a t i8 q8 c8 d8) H → va_D A (xwT sk a t i8 q8 c8 d8) → va_S A s.heap H locs → lv_has ls 5 [(3, .int y3_3), (0, .ref (a 112)), (1, .int w1), (2, .int w2)] → W p l e (headSpec wm_X1_isDoorClashing ({ frames := 1, cells := 0, slots := 0, locals := 21 })).room s m ([.ref (a 112), .int w1, .int w2] : List Value).toArray below meth cd H locs 0 0 (MQ below (va_Qi (fun (r : Int32) (u : MS) => (0 ≤ r.toInt ∧ r.toInt ≤ 1) ∧ xInv u.1 u.2.2.1 ∧ (∀ k, k ∉ ([123] : List Nat) → u.1 k = i k) ∧ (∀ k, k ∉ ([122] : List Nat) → u.2.2.1 k = c k)) (oC D A (fun u : MS => xwT sk a t u.1 u.2.1 u.2.2.1 u.2.2.2) (fun _ => [])) A) ([.ref (a 112), .int w1, .int w2] : List Value).toArray s 0 0 A) (F0 m 97 ls []) := by
                intro i8 q8 c8 d8 hI hfi hfc H locs ls hP hD hS hl
                obtain ⟨x9, ex9⟩ : ∃ y : Int32, y = y3_3 + 1 := ⟨_, rfl⟩
                have tx9 := ti_add (a := y3_3.toInt) (b := 1) ex9 rfl (by decide +kernel) (by omega) (by omega)
                refine lv_iinc (v := x9) (lv' := [(3, .int x9), (0, .ref (a 112)), (1, .int w1), (2, .int w2)]) hx hb dX1_isDoorClashing_97 hl (k := 0) rfl (by rw [ex9]; rfl) (by decide +kernel) rfl (fun ls hl => ?_)
                refine lv_goto (tgt := 54) hx hb dX1_isDoorClashing_100 (by decide +kernel) ?_
                exact ih3 i8 q8 c8 d8 x9 hI (fr_w hfi (by decide +kernel)) (fr_w hfc (by decide +kernel)) (show 0 ≤ x9.toInt ∧ x9.toInt ≤ 200 from by have h50 : x9.toInt = (y3_3.toInt + 1) := tx9; omega) (by have h50 : x9.toInt = (y3_3.toInt + 1) := tx9; omega) _ _ _ hP hD hS (lv_sub hl [0, 1, 2, 3] rfl)
              refine lv_if_eq (tgt := 97) hx hb dX1_isDoorClashing_68 (by decide +kernel) (fun c10 => ?_) (fun c10 => ?_)
              · have f10 := (ti_eq (a := x7.toInt) (b := 0) rfl (by decide +kernel)).mp c10
                exact jn8 i3 q3 c3 d3   hI (fr_w hfi (by decide +kernel)) (fr_w hfc (by decide +kernel)) _ _ _ hP hD hS (lv_sub hl [0, 1, 2, 3] rfl)
              · have f10 := mt (ti_eq (a := x7.toInt) (b := 0) rfl (by decide +kernel)).mpr c10
                refine lv_aload_n hx hb dX1_isDoorClashing_71 rfl (lv_at hl 1 rfl) ?_
                refine xgT_B_forms hx hb hts (fun _ h => List.mem_cons_of_mem _ (List.mem_append_right _ h)) hown hK hP (hts (.fieldLink RX1 9 "TalePlay$Book" "forms" "[I") (List.mem_cons_of_mem _ (List.mem_append_left _ (List.mem_of_getElem? (i := 8) rfl)))) dX1_isDoorClashing_72 ?_
                refine lv_iload_n hx hb dX1_isDoorClashing_75 rfl (lv_at hl 0 rfl) ?_
                refine xlT_113 hx hb hK hP (vp_in_iff.mpr (by have h9 : y3_3.toInt = y3_3.toInt := rfl; omega)) dX1_isDoorClashing_76 (fun x11 ex11 => ?_)
                have rx11 : 0 ≤ x11.toInt ∧ x11.toInt ≤ 7 := by rw [ex11]; exact hI.2 113 _
                refine lv_iconst (v := 5) hx hb dX1_isDoorClashing_77 (by decide +kernel) ?_
                refine lv_icmp_ne (tgt := 97) hx hb dX1_isDoorClashing_78 (by decide +kernel) (fun c12 => ?_) (fun c12 => ?_)
                · have f12 := mt (ti_eq (a := x11.toInt) (b := 5) rfl (by decide +kernel)).mpr c12
                  exact jn8 i3 q3 c3 d3   hI (fr_w hfi (by decide +kernel)) (fr_w hfc (by decide +kernel)) _ _ _ hP hD hS (lv_sub hl [0, 1, 2, 3] rfl)
                · have f12 := (ti_eq (a := x11.toInt) (b := 5) rfl (by decide +kernel)).mp c12
                  refine lv_aload_n hx hb dX1_isDoorClashing_81 rfl (lv_at hl 1 rfl) ?_
                  refine xgT_B_bs hx hb hts (fun _ h => List.mem_cons_of_mem _ (List.mem_append_right _ h)) hown hK hP (hts (.fieldLink RX1 18 "TalePlay$Book" "bs" "[I") (List.mem_cons_of_mem _ (List.mem_append_left _ (List.mem_of_getElem? (i := 9) rfl)))) dX1_isDoorClashing_82 ?_
                  refine lv_iload_n hx hb dX1_isDoorClashing_85 rfl (lv_at hl 0 rfl) ?_
                  refine xlT_115 hx hb hK hP (vp_in_iff.mpr (by have h9 : y3_3.toInt = y3_3.toInt := rfl; omega)) dX1_isDoorClashing_86 (fun x13 ex13 => ?_)
                  have rx13 : 0 ≤ x13.toInt ∧ x13.toInt ≤ 29 := by rw [ex13]; exact hI.2 115 _
                  refine lv_iload_n hx hb dX1_isDoorClashing_87 rfl (lv_at hl 3 rfl) ?_
                  refine lv_icmp_ne (tgt := 97) hx hb dX1_isDoorClashing_88 (by decide +kernel) (fun c14 => ?_) (fun c14 => ?_)
                  · have f14 := mt (ti_eq (a := x13.toInt) (b := w2.toInt) rfl rfl).mpr c14
                    exact jn8 i3 q3 c3 d3   hI (fr_w hfi (by decide +kernel)) (fr_w hfc (by decide +kernel)) _ _ _ hP hD hS (lv_sub hl [0, 1, 2, 3] rfl)
                  · have f14 := (ti_eq (a := x13.toInt) (b := w2.toInt) rfl rfl).mp c14
                    refine lv_aload_n hx hb dX1_isDoorClashing_91 rfl (lv_at hl 1 rfl) ?_
                    refine lv_iload_n hx hb dX1_isDoorClashing_92 rfl (lv_at hl 0 rfl) ?_
                    refine al_calli (va_runV (As := [.int y3_3]) (rest := []) ⟨hx, hb, hml, hown, hts⟩ (x_X1_addClash l D H.size sk a t i3 q3 c3 d3 y3_3 hI (show y3_3.toInt = -9 ∨ (0 ≤ y3_3.toInt ∧ y3_3.toInt ≤ 199) from by omega)) (cwV 1 hts gm_X1_isDoorClashing_X1_addClash_121 rfl rfl rfl (by decide +kernel) ⟨Nat.le_of_ble_eq_true rfl, Nat.le_of_ble_eq_true rfl⟩) (yB_V hN (xZ_k hZ hS hA) (xZ_n hZ hD) hK hP hD (ci := 1) (q0 := 8) rfl rfl) rfl rfl hl.1 rfl (lv_room (Nat.le_of_ble_eq_true rfl)) dX1_isDoorClashing_93 ⟨Nat.le_of_ble_eq_true rfl, Nat.le_of_ble_eq_true rfl⟩) hS hA hP hD (fun r15 u15 H locs hw15 hP hD hS => ?_)
                    obtain ⟨i15, q15, c15, d15⟩ := u15
                    have hw15 : (0 ≤ r15.toInt ∧ r15.toInt ≤ 1) ∧ xInv i15 c15 ∧ (∀ k, k ∉ ([123] : List Nat) → i15 k = i3 k) ∧ (∀ k, k ∉ ([122] : List Nat) → c15 k = c3 k) := hw15
                    obtain ⟨hw15, hI, hei15, hec15⟩ := hw15
                    have hfi : ∀ k, k ∉ ([123] : List Nat) → i15 k = i k := fr_z hfi hei15 (by decide +kernel) (by decide +kernel)
                    have hfc : ∀ k, k ∉ ([122] : List Nat) → c15 k = c k := fr_z hfc hec15 (by decide +kernel) (by decide +kernel)
                    refine lv_pop hx hb dX1_isDoorClashing_96 rfl ?_
                    exact jn8 i15 q15 c15 d15   hI (fr_w hfi (by decide +kernel)) (fr_w hfc (by decide +kernel)) _ _ _ hP hD hS (lv_sub hl [0, 1, 2, 3] rfl)
        exact lp3 _ i q c d (0 : Int32) hI (fr_w hfi (by decide +kernel)) (fr_w hfc (by decide +kernel)) (show 0 ≤ (0 : Int32).toInt ∧ (0 : Int32).toInt ≤ 200 from by decide +kernel) (Nat.lt_succ_self _) _ _ _ hP hD hS (lv_sub hl [0, 1, 2, 3] rfl)
      · have f2 := mt (ti_le (a := 10) (b := y1_3.toInt) (by decide +kernel) rfl).mpr c2
        refine lv_aload_n hx hb dX1_isDoorClashing_8 rfl (lv_at hl 1 rfl) ?_
        refine xgT_B_exitBy hx hb hts (fun _ h => List.mem_cons_of_mem _ (List.mem_append_right _ h)) hown hK hP (hts (.fieldLink RX1 31 "TalePlay$Book" "exitBy" "[I") (List.mem_cons_of_mem _ (List.mem_append_left _ (List.mem_of_getElem? (i := 15) rfl)))) dX1_isDoorClashing_9 ?_
        refine lv_iload_n hx hb dX1_isDoorClashing_12 rfl (lv_at hl 2 rfl) ?_
        refine lv_bipush (v := 10) hx hb dX1_isDoorClashing_13 (by decide +kernel) ?_
        refine lv_imul hx hb dX1_isDoorClashing_15 ?_
        refine lv_topi (fun x16 ex16 => ?_)
        have tx16 := ti_mul (a := w1.toInt) (b := 10) ex16 rfl (by decide +kernel) (by omega) (by omega)
        refine lv_iload_n hx hb dX1_isDoorClashing_16 rfl (lv_at hl 0 rfl) ?_
        refine lv_iadd hx hb dX1_isDoorClashing_17 ?_
        refine lv_topi (fun x17 ex17 => ?_)
        have tx17 := ti_add (a := (w1.toInt * 10)) (b := y1_3.toInt) ex17 tx16 rfl (by omega) (by omega)
        refine xlT_119 hx hb hK hP (vp_in_iff.mpr (by have h9 : x17.toInt = ((w1.toInt * 10) + y1_3.toInt) := tx17; omega)) dX1_isDoorClashing_18 (fun x18 ex18 => ?_)
        have rx18 : x18.toInt = -9 ∨ (0 ≤ x18.toInt ∧ x18.toInt ≤ 199) := by rw [ex18]; exact hI.2 119 _
        refine lv_istore (lv' := [(4, .int x18), (3, .int y1_3), (0, .ref (a 112)), (1, .int w1), (2, .int w2)]) hx hb dX1_isDoorClashing_19 hl (by decide +kernel) rfl (fun ls hl => ?_)
        refine lv_iload hx hb dX1_isDoorClashing_21 (lv_at hl 0 rfl) ?_
        refine lv_bipush (v := (-9)) hx hb dX1_isDoorClashing_23 (by decide +kernel) ?_
        have jn19 : ∀ (H : Heap) (locs : List Loc) (ls : Array Slot), va_P D vwCl (xwT sk a t i q c d) H → va_D A (xwT sk a t i q c d) → va_S A s.heap H locs → lv_has ls 5 [(4, .int x18), (3, .int y1_3), (0, .ref (a 112)), (1, .int w1), (2, .int w2)] → W p l e (headSpec wm_X1_isDoorClashing ({ frames := 1, cells := 0, slots := 0, locals := 21 })).room s m ([.ref (a 112), .int w1, .int w2] : List Value).toArray below meth cd H locs 0 0 (MQ below (va_Qi (fun (r : Int32) (u : MS) => (0 ≤ r.toInt ∧ r.toInt ≤ 1) ∧ xInv u.1 u.2.2.1 ∧ (∀ k, k ∉ ([123] : List Nat) → u.1 k = i k) ∧ (∀ k, k ∉ ([122] : List Nat) → u.2.2.1 k = c k)) (oC D A (fun u : MS => xwT sk a t u.1 u.2.1 u.2.2.1 u.2.2.2) (fun _ => [])) A) ([.ref (a 112), .int w1, .int w2] : List Value).toArray s 0 0 A) (F0 m 46 ls []) := by
          intro H locs ls hP hD hS hl
          obtain ⟨x20, ex20⟩ : ∃ y : Int32, y = y1_3 + 1 := ⟨_, rfl⟩
          have tx20 := ti_add (a := y1_3.toInt) (b := 1) ex20 rfl (by decide +kernel) (by omega) (by omega)
          refine lv_iinc (v := x20) (lv' := [(3, .int x20), (4, .int x18), (0, .ref (a 112)), (1, .int w1), (2, .int w2)]) hx hb dX1_isDoorClashing_46 hl (k := 1) rfl (by rw [ex20]; rfl) (by decide +kernel) rfl (fun ls hl => ?_)
          refine lv_goto (tgt := 2) hx hb dX1_isDoorClashing_49 (by decide +kernel) ?_
          exact ih1 x20 (show 0 ≤ x20.toInt ∧ x20.toInt ≤ 10 from by have h50 : x20.toInt = (y1_3.toInt + 1) := tx20; omega) (by have h50 : x20.toInt = (y1_3.toInt + 1) := tx20; omega) _ _ _ hP hD hS (lv_sub hl [0, 2, 3, 4] rfl)
        refine lv_icmp_eq (tgt := 46) hx hb dX1_isDoorClashing_25 (by decide +kernel) (fun c21 => ?_) (fun c21 => ?_)
        · have f21 := (ti_eq (a := x18.toInt) (b := (-9)) rfl (by decide +kernel)).mp c21
          exact jn19    _ _ _ hP hD hS (lv_sub hl [0, 1, 2, 3, 4] rfl)
        · have f21 := mt (ti_eq (a := x18.toInt) (b := (-9)) rfl (by decide +kernel)).mpr c21
          refine lv_aload_n hx hb dX1_isDoorClashing_28 rfl (lv_at hl 2 rfl) ?_
          refine xgT_B_bs hx hb hts (fun _ h => List.mem_cons_of_mem _ (List.mem_append_right _ h)) hown hK hP (hts (.fieldLink RX1 18 "TalePlay$Book" "bs" "[I") (List.mem_cons_of_mem _ (List.mem_append_left _ (List.mem_of_getElem? (i := 9) rfl)))) dX1_isDoorClashing_29 ?_
          refine lv_iload hx hb dX1_isDoorClashing_32 (lv_at hl 0 rfl) ?_
          refine xlT_115 hx hb hK hP (vp_in_iff.mpr (by have h9 : x18.toInt = x18.toInt := rfl; omega)) dX1_isDoorClashing_34 (fun x22 ex22 => ?_)
          have rx22 : 0 ≤ x22.toInt ∧ x22.toInt ≤ 29 := by rw [ex22]; exact hI.2 115 _
          refine lv_iload_n hx hb dX1_isDoorClashing_35 rfl (lv_at hl 4 rfl) ?_
          refine lv_icmp_ne (tgt := 46) hx hb dX1_isDoorClashing_36 (by decide +kernel) (fun c23 => ?_) (fun c23 => ?_)
          · have f23 := mt (ti_eq (a := x22.toInt) (b := w2.toInt) rfl rfl).mpr c23
            exact jn19    _ _ _ hP hD hS (lv_sub hl [0, 1, 2, 3, 4] rfl)
          · have f23 := (ti_eq (a := x22.toInt) (b := w2.toInt) rfl rfl).mp c23
            refine lv_aload_n hx hb dX1_isDoorClashing_39 rfl (lv_at hl 2 rfl) ?_
            refine lv_iload hx hb dX1_isDoorClashing_40 (lv_at hl 0 rfl) ?_
            refine al_calli (va_runV (As := [.int x18]) (rest := []) ⟨hx, hb, hml, hown, hts⟩ (x_X1_addClash l D H.size sk a t i q c d x18 hI (show x18.toInt = -9 ∨ (0 ≤ x18.toInt ∧ x18.toInt ≤ 199) from by omega)) (cwV 1 hts gm_X1_isDoorClashing_X1_addClash_121 rfl rfl rfl (by decide +kernel) ⟨Nat.le_of_ble_eq_true rfl, Nat.le_of_ble_eq_true rfl⟩) (yB_V hN (xZ_k hZ hS hA) (xZ_n hZ hD) hK hP hD (ci := 1) (q0 := 8) rfl rfl) rfl rfl hl.1 rfl (lv_room (Nat.le_of_ble_eq_true rfl)) dX1_isDoorClashing_42 ⟨Nat.le_of_ble_eq_true rfl, Nat.le_of_ble_eq_true rfl⟩) hS hA hP hD (fun r24 u24 H locs hw24 hP hD hS => ?_)
            obtain ⟨i24, q24, c24, d24⟩ := u24
            have hw24 : (0 ≤ r24.toInt ∧ r24.toInt ≤ 1) ∧ xInv i24 c24 ∧ (∀ k, k ∉ ([123] : List Nat) → i24 k = i k) ∧ (∀ k, k ∉ ([122] : List Nat) → c24 k = c k) := hw24
            obtain ⟨hw24, hI, hei24, hec24⟩ := hw24
            have hfi : ∀ k, k ∉ ([123] : List Nat) → i24 k = i k := fr_z hfi hei24 (by decide +kernel) (by decide +kernel)
            have hfc : ∀ k, k ∉ ([122] : List Nat) → c24 k = c k := fr_z hfc hec24 (by decide +kernel) (by decide +kernel)
            exact rw_zret (i24, q24, c24, d24) hx hb hr hlocks hS (hK.sub (tys' := []) [] rfl) hP hD (nb_n (show 0 ≤ r24.toInt ∧ r24.toInt ≤ 1 from by omega)) dX1_isDoorClashing_45 ⟨(show 0 ≤ r24.toInt ∧ r24.toInt ≤ 1 from by omega), hI, fr_w hfi (by decide +kernel), fr_w hfc (by decide +kernel)⟩
  exact lp1 _ (0 : Int32) (show 0 ≤ (0 : Int32).toInt ∧ (0 : Int32).toInt ≤ 10 from by decide +kernel) (Nat.lt_succ_self _) _ _ _ hP hD hS (lv_sub hl [0, 1, 2, 3] rfl)

def wm_X1_isFlagClashing : List Cond := .code yX1_isFlagClashing cX1_isFlagClashing 4 (some .boolean) :: ((([.methodLink RX1 140 yX1_saying, .instanceMethod yX1_saying, .selects RX1 yX1_saying yX1_saying, .initialized RX1, .code yX1_saying cX1_saying 5 (some .int), .fieldLink RX1 34 "TalePlay$Book" "flagBy" "[I", .fieldLink RX1 21 "TalePlay$Book" "cs" "[I", .methodLink RX1 121 yX1_addClash, .instanceMethod yX1_addClash, .selects RX1 yX1_addClash yX1_addClash, .code yX1_addClash cX1_addClash 2 (some .boolean), .fieldLink RX1 118 "TalePlay$Book" "clashes" "I", .fieldLink RX1 40 "TalePlay$Book" "clashRow" "[I", .fieldLink RX1 52 "TalePlay$Book" "places" "LTalePlay$Scene;", .methodLink RX1 149 yX6_formOf, .instanceMethod yX6_formOf] : List Cond) ++ ([.selects RX6 yX6_formOf yX6_formOf, .initialized RX6, .code yX6_formOf cX6_formOf 3 (some .int), .fieldLink RX6 9 "TalePlay$Scene" "cells" "[I", .fieldLink RX1 28 "TalePlay$Book" "placeBy" "[I"] : List Cond)) ++ wsX10 ++ wsX60)
set_option maxRecDepth 20000 in
theorem gm_X1_isFlagClashing_X1_saying_140 : GoodIn wm_X1_isFlagClashing (wsV RX1 140 RX1 yX1_saying wm_X1_saying) := goodIn_w (List.forall_mem_append.mpr ⟨List.forall_mem_cons.mpr ⟨List.mem_cons_of_mem _ (List.mem_append_left _ (List.mem_append_left _ (List.mem_append_left _ (List.mem_of_getElem? (i := 0) rfl)))), List.forall_mem_cons.mpr ⟨List.mem_cons_of_mem _ (List.mem_append_left _ (List.mem_append_left _ (List.mem_append_left _ (List.mem_of_getElem? (i := 1) rfl)))), List.forall_mem_cons.mpr ⟨List.mem_cons_of_mem _ (List.mem_append_left _ (List.mem_append_left _ (List.mem_append_left _ (List.mem_of_getElem? (i := 2) rfl)))), List.forall_mem_cons.mpr ⟨List.mem_cons_of_mem _ (List.mem_append_left _ (List.mem_append_left _ (List.mem_append_left _ (List.mem_of_getElem? (i := 3) rfl)))), (fun _ h => absurd h List.not_mem_nil)⟩⟩⟩⟩, List.forall_mem_cons.mpr ⟨List.mem_cons_of_mem _ (List.mem_append_left _ (List.mem_append_left _ (List.mem_append_left _ (List.mem_of_getElem? (i := 4) rfl)))), List.forall_mem_append.mpr ⟨List.forall_mem_cons.mpr ⟨List.mem_cons_of_mem _ (List.mem_append_left _ (List.mem_append_left _ (List.mem_append_left _ (List.mem_of_getElem? (i := 5) rfl)))), List.forall_mem_cons.mpr ⟨List.mem_cons_of_mem _ (List.mem_append_left _ (List.mem_append_left _ (List.mem_append_left _ (List.mem_of_getElem? (i := 6) rfl)))), (fun _ h => absurd h List.not_mem_nil)⟩⟩, (fun _ h => List.mem_cons_of_mem _ (List.mem_append_left _ (List.mem_append_right _ h)))⟩⟩⟩) (by decide +kernel)
set_option maxRecDepth 20000 in
theorem gm_X1_isFlagClashing_X1_addClash_121 : GoodIn wm_X1_isFlagClashing (wsV RX1 121 RX1 yX1_addClash wm_X1_addClash) := goodIn_w (List.forall_mem_append.mpr ⟨List.forall_mem_cons.mpr ⟨List.mem_cons_of_mem _ (List.mem_append_left _ (List.mem_append_left _ (List.mem_append_left _ (List.mem_of_getElem? (i := 7) rfl)))), List.forall_mem_cons.mpr ⟨List.mem_cons_of_mem _ (List.mem_append_left _ (List.mem_append_left _ (List.mem_append_left _ (List.mem_of_getElem? (i := 8) rfl)))), List.forall_mem_cons.mpr ⟨List.mem_cons_of_mem _ (List.mem_append_left _ (List.mem_append_left _ (List.mem_append_left _ (List.mem_of_getElem? (i := 9) rfl)))), List.forall_mem_cons.mpr ⟨List.mem_cons_of_mem _ (List.mem_append_left _ (List.mem_append_left _ (List.mem_append_left _ (List.mem_of_getElem? (i := 3) rfl)))), (fun _ h => absurd h List.not_mem_nil)⟩⟩⟩⟩, List.forall_mem_cons.mpr ⟨List.mem_cons_of_mem _ (List.mem_append_left _ (List.mem_append_left _ (List.mem_append_left _ (List.mem_of_getElem? (i := 10) rfl)))), List.forall_mem_append.mpr ⟨List.forall_mem_cons.mpr ⟨List.mem_cons_of_mem _ (List.mem_append_left _ (List.mem_append_left _ (List.mem_append_left _ (List.mem_of_getElem? (i := 11) rfl)))), List.forall_mem_cons.mpr ⟨List.mem_cons_of_mem _ (List.mem_append_left _ (List.mem_append_left _ (List.mem_append_left _ (List.mem_of_getElem? (i := 12) rfl)))), (fun _ h => absurd h List.not_mem_nil)⟩⟩, (fun _ h => List.mem_cons_of_mem _ (List.mem_append_left _ (List.mem_append_right _ h)))⟩⟩⟩) (by decide +kernel)
set_option maxRecDepth 20000 in
theorem gm_X1_isFlagClashing_X6_formOf_BP_149 : GoodIn wm_X1_isFlagClashing (wsV RX1 149 RX6 yX6_formOf wm_X6_formOf_BP) := goodIn_w (List.forall_mem_append.mpr ⟨List.forall_mem_cons.mpr ⟨List.mem_cons_of_mem _ (List.mem_append_left _ (List.mem_append_left _ (List.mem_append_left _ (List.mem_of_getElem? (i := 14) rfl)))), List.forall_mem_cons.mpr ⟨List.mem_cons_of_mem _ (List.mem_append_left _ (List.mem_append_left _ (List.mem_append_left _ (List.mem_of_getElem? (i := 15) rfl)))), List.forall_mem_cons.mpr ⟨List.mem_cons_of_mem _ (List.mem_append_left _ (List.mem_append_left _ (List.mem_append_right _ (List.mem_of_getElem? (i := 0) rfl)))), List.forall_mem_cons.mpr ⟨List.mem_cons_of_mem _ (List.mem_append_left _ (List.mem_append_left _ (List.mem_append_right _ (List.mem_of_getElem? (i := 1) rfl)))), (fun _ h => absurd h List.not_mem_nil)⟩⟩⟩⟩, List.forall_mem_cons.mpr ⟨List.mem_cons_of_mem _ (List.mem_append_left _ (List.mem_append_left _ (List.mem_append_right _ (List.mem_of_getElem? (i := 2) rfl)))), List.forall_mem_append.mpr ⟨List.forall_mem_cons.mpr ⟨List.mem_cons_of_mem _ (List.mem_append_left _ (List.mem_append_left _ (List.mem_append_right _ (List.mem_of_getElem? (i := 3) rfl)))), (fun _ h => absurd h List.not_mem_nil)⟩, (fun _ h => List.mem_cons_of_mem _ (List.mem_append_right _ h))⟩⟩⟩) (by decide +kernel)
set_option maxHeartbeats 4000000 in
set_option maxRecDepth 100000 in
theorem x_X1_isFlagClashing (l : Launch) (D : va_G) (sz : Nat) (sk : Value) (a : Nat → Nat) (t : Nat → ClassId) (i : Nat → Int32) (q : Int64) (c : Nat → Nat → Int32) (d : Nat → Nat → Int64) (w1 : Int32) (f : Int32) (v1 : Int32) (hI : xInv i c) (hw1 : 0 ≤ w1.toInt ∧ w1.toInt ≤ 29) (hf : 0 ≤ f.toInt ∧ f.toInt ≤ 5) : Met l yX1_isFlagClashing wm_X1_isFlagClashing ({ frames := 1, cells := 0, slots := 0, locals := 24 }) (va_Pc [.ref (a 112), .int w1, .int f, .int v1] (yB (a 186) D sz (xwT sk a t i q c d) (xtT t))) (va_Qi (fun (r : Int32) (u : MS) => (0 ≤ r.toInt ∧ r.toInt ≤ 1) ∧ xInv u.1 u.2.2.1 ∧ (∀ k, k ∉ ([123] : List Nat) → u.1 k = i k) ∧ (∀ k, k ∉ ([122] : List Nat) → u.2.2.1 k = c k)) (oC D (va_A (xwT sk a t i q c d) sz) (fun u : MS => xwT sk a t u.1 u.2.1 u.2.2.1 u.2.2.2) (fun _ => [])) (va_A (xwT sk a t i q c d) sz)) 0 0 (va_A (xwT sk a t i q c d) sz) := by
  refine Met.ofW (cc := cX1_isFlagClashing) (maxL := 4) (ret := (some .boolean)) (by decide +kernel) rfl ?_
  intro p e s m args below meth cd s₁ B hml hv
  obtain ⟨rfl, ⟨hsz, hP, hK, hD0⟩, hN, hZ, hBW⟩ := hv
  have hx := B.exec
  have hb := B.bytes
  have hr := B.returns
  have hts := atoms_spec (ws := wm_X1_isFlagClashing) B.pre
  have hown : s.vm.findClass RX1 = some m.cls := findClass_of_methodNamed B.named
  have hlocks := B.notSynchronized
  subst hsz
  have hD := hD0.self (sz := s.heap.size)
  have hZ := xZ_A hZ hP hBW
  generalize hAe : va_A (xwT sk a t i q c d) s.heap.size = A at hD hZ ⊢
  have hA : ∀ q : Nat, s.heap.size ≤ q → A q := fun q h => by rw [← hAe]; exact Or.inr h
  have hS : va_S A s.heap s.heap [] := va_S.rf
  have hfi : ∀ k, k ∉ ([] : List Nat) → i k = i k := fun _ _ => rfl
  have hfc : ∀ k, k ∉ ([] : List Nat) → c k = c k := fun _ _ => rfl
  have hl := lv_entry ([.ref (a 112), .int w1, .int f, .int v1]) (n := 4) (Nat.le_of_ble_eq_true rfl)
  rw [lg_entry_eq]
  generalize (lg_sl ([.ref (a 112), .int w1, .int f, .int v1]) ++ List.replicate (4 - (lg_sl ([.ref (a 112), .int w1, .int f, .int v1])).length) Slot.unset).toArray = ls at hl ⊢
  have hl : lv_has ls 4 [(0, .ref (a 112)), (1, .int w1), (2, .int f), (3, .int v1)] := hl
  refine lv_iload_n hx hb dX1_isFlagClashing_0 rfl (lv_at hl 2 rfl) ?_
  rcases (show (f.toInt < 0 ∨ 4 < f.toInt) ∨ f.toInt = 0 ∨ f.toInt = 1 ∨ f.toInt = 2 ∨ f.toInt = 3 ∨ f.toInt = 4 by omega) with f1 | f1 | f1 | f1 | f1 | f1
  · refine lv_tableOut (tgt := 127) hx hb dX1_isFlagClashing_1 f1 (by decide +kernel) ?_
    refine lv_iconst (v := 0) hx hb dX1_isFlagClashing_127 (by decide +kernel) ?_
    exact rw_zret (i, q, c, d) hx hb hr hlocks hS (hK.sub (tys' := []) [] rfl) hP hD rfl dX1_isFlagClashing_128 ⟨(show 0 ≤ (0 : Int32).toInt ∧ (0 : Int32).toInt ≤ 1 from by decide +kernel), hI, fr_w hfi (by decide +kernel), fr_w hfc (by decide +kernel)⟩
  · refine lv_tableIn (off := 35) (tgt := 36) hx hb dX1_isFlagClashing_1 (by omega) (by omega) (by rw [f1]; rfl) (by decide +kernel) ?_
    refine lv_iload_n hx hb dX1_isFlagClashing_36 rfl (lv_at hl 3 rfl) ?_
    refine lv_iconst (v := 1) hx hb dX1_isFlagClashing_37 (by decide +kernel) ?_
    refine lv_icmp_ne (tgt := 59) hx hb dX1_isFlagClashing_38 (by decide +kernel) (fun c2 => ?_) (fun c2 => ?_)
    · have f2 := mt (ti_eq (a := v1.toInt) (b := 1) rfl (by decide +kernel)).mpr c2
      refine lv_iconst (v := 0) hx hb dX1_isFlagClashing_59 (by decide +kernel) ?_
      refine lv_goto (tgt := 128) hx hb dX1_isFlagClashing_60 (by decide +kernel) ?_
      exact rw_zret (i, q, c, d) hx hb hr hlocks hS (hK.sub (tys' := []) [] rfl) hP hD rfl dX1_isFlagClashing_128 ⟨(show 0 ≤ (0 : Int32).toInt ∧ (0 : Int32).toInt ≤ 1 from by decide +kernel), hI, fr_w hfi (by decide +kernel), fr_w hfc (by decide +kernel)⟩
    · have f2 := (ti_eq (a := v1.toInt) (b := 1) rfl (by decide +kernel)).mp c2
      refine lv_aload_n hx hb dX1_isFlagClashing_41 rfl (lv_at hl 0 rfl) ?_
      refine lv_aload_n hx hb dX1_isFlagClashing_42 rfl (lv_at hl 0 rfl) ?_
      refine lv_iload_n hx hb dX1_isFlagClashing_43 rfl (lv_at hl 1 rfl) ?_
      refine lv_iconst (v := 1) hx hb dX1_isFlagClashing_44 (by decide +kernel) ?_
      refine lv_iconst (v := 1) hx hb dX1_isFlagClashing_45 (by decide +kernel) ?_
      refine ro_calli (va_runV (As := [.int w1, .int 1, .int 1]) (rest := [.ref (a 112)]) ⟨hx, hb, hml, hown, hts⟩ (x_X1_saying l D s.heap.size .null a t i q c d w1 1 1 hI (show 0 ≤ w1.toInt ∧ w1.toInt ≤ 29 from by have h91 : (1 : Int32).toInt = 1 := (by decide +kernel); have h92 : (1 : Int32).toInt = 1 := (by decide +kernel); omega) (show 0 ≤ 1 ∧ 1 ≤ 5 from by decide +kernel)) (cwV 3 hts gm_X1_isFlagClashing_X1_saying_140 rfl rfl rfl (by decide +kernel) ⟨Nat.le_of_ble_eq_true rfl, Nat.le_of_ble_eq_true rfl⟩) (yA_V hN (xZ_k hZ hS hA) (xkT_B hK) (xuT_B (sk := sk) hP) (ci := 1) (q0 := 6) rfl rfl) rfl rfl hl.1 rfl (lv_room (Nat.le_of_ble_eq_true rfl)) dX1_isFlagClashing_46 ⟨Nat.le_of_ble_eq_true rfl, Nat.le_of_ble_eq_true rfl⟩) hS hA hP (fun r3 u3 H locs hw3 hP hS => ?_)
      have hw3 : (r3.toInt = -9 ∨ (0 ≤ r3.toInt ∧ r3.toInt ≤ 199)) := hw3
      refine al_calli (va_runV (As := [.int r3]) (rest := []) ⟨hx, hb, hml, hown, hts⟩ (x_X1_addClash l D H.size sk a t i q c d r3 hI (show r3.toInt = -9 ∨ (0 ≤ r3.toInt ∧ r3.toInt ≤ 199) from by omega)) (cwV 1 hts gm_X1_isFlagClashing_X1_addClash_121 rfl rfl rfl (by decide +kernel) ⟨Nat.le_of_ble_eq_true rfl, Nat.le_of_ble_eq_true rfl⟩) (yB_V hN (xZ_k hZ hS hA) (xZ_n hZ hD) hK hP hD (ci := 1) (q0 := 8) rfl rfl) rfl rfl hl.1 rfl (lv_room (Nat.le_of_ble_eq_true rfl)) dX1_isFlagClashing_49 ⟨Nat.le_of_ble_eq_true rfl, Nat.le_of_ble_eq_true rfl⟩) hS hA hP hD (fun r4 u4 H locs hw4 hP hD hS => ?_)
      obtain ⟨i4, q4, c4, d4⟩ := u4
      have hw4 : (0 ≤ r4.toInt ∧ r4.toInt ≤ 1) ∧ xInv i4 c4 ∧ (∀ k, k ∉ ([123] : List Nat) → i4 k = i k) ∧ (∀ k, k ∉ ([122] : List Nat) → c4 k = c k) := hw4
      obtain ⟨hw4, hI, hei4, hec4⟩ := hw4
      have hfi : ∀ k, k ∉ ([123] : List Nat) → i4 k = i k := fr_z hfi hei4 (by decide +kernel) (by decide +kernel)
      have hfc : ∀ k, k ∉ ([122] : List Nat) → c4 k = c k := fr_z hfc hec4 (by decide +kernel) (by decide +kernel)
      refine lv_if_eq (tgt := 59) hx hb dX1_isFlagClashing_52 (by decide +kernel) (fun c5 => ?_) (fun c5 => ?_)
      · have f5 := (ti_eq (a := r4.toInt) (b := 0) rfl (by decide +kernel)).mp c5
        refine lv_iconst (v := 0) hx hb dX1_isFlagClashing_59 (by decide +kernel) ?_
        refine lv_goto (tgt := 128) hx hb dX1_isFlagClashing_60 (by decide +kernel) ?_
        exact rw_zret (i4, q4, c4, d4) hx hb hr hlocks hS (hK.sub (tys' := []) [] rfl) hP hD rfl dX1_isFlagClashing_128 ⟨(show 0 ≤ (0 : Int32).toInt ∧ (0 : Int32).toInt ≤ 1 from by decide +kernel), hI, fr_w hfi (by decide +kernel), fr_w hfc (by decide +kernel)⟩
      · have f5 := mt (ti_eq (a := r4.toInt) (b := 0) rfl (by decide +kernel)).mpr c5
        refine lv_iconst (v := 1) hx hb dX1_isFlagClashing_55 (by decide +kernel) ?_
        refine lv_goto (tgt := 128) hx hb dX1_isFlagClashing_56 (by decide +kernel) ?_
        exact rw_zret (i4, q4, c4, d4) hx hb hr hlocks hS (hK.sub (tys' := []) [] rfl) hP hD rfl dX1_isFlagClashing_128 ⟨(show 0 ≤ (1 : Int32).toInt ∧ (1 : Int32).toInt ≤ 1 from by decide +kernel), hI, fr_w hfi (by decide +kernel), fr_w hfc (by decide +kernel)⟩
  · refine lv_tableIn (off := 62) (tgt := 63) hx hb dX1_isFlagClashing_1 (by omega) (by omega) (by rw [f1]; rfl) (by decide +kernel) ?_
    refine lv_iload_n hx hb dX1_isFlagClashing_63 rfl (lv_at hl 3 rfl) ?_
    refine lv_iconst (v := 1) hx hb dX1_isFlagClashing_64 (by decide +kernel) ?_
    refine lv_icmp_ne (tgt := 86) hx hb dX1_isFlagClashing_65 (by decide +kernel) (fun c6 => ?_) (fun c6 => ?_)
    · have f6 := mt (ti_eq (a := v1.toInt) (b := 1) rfl (by decide +kernel)).mpr c6
      refine lv_iconst (v := 0) hx hb dX1_isFlagClashing_86 (by decide +kernel) ?_
      refine lv_goto (tgt := 128) hx hb dX1_isFlagClashing_87 (by decide +kernel) ?_
      exact rw_zret (i, q, c, d) hx hb hr hlocks hS (hK.sub (tys' := []) [] rfl) hP hD rfl dX1_isFlagClashing_128 ⟨(show 0 ≤ (0 : Int32).toInt ∧ (0 : Int32).toInt ≤ 1 from by decide +kernel), hI, fr_w hfi (by decide +kernel), fr_w hfc (by decide +kernel)⟩
    · have f6 := (ti_eq (a := v1.toInt) (b := 1) rfl (by decide +kernel)).mp c6
      refine lv_aload_n hx hb dX1_isFlagClashing_68 rfl (lv_at hl 0 rfl) ?_
      refine lv_aload_n hx hb dX1_isFlagClashing_69 rfl (lv_at hl 0 rfl) ?_
      refine lv_iload_n hx hb dX1_isFlagClashing_70 rfl (lv_at hl 1 rfl) ?_
      refine lv_iconst (v := 0) hx hb dX1_isFlagClashing_71 (by decide +kernel) ?_
      refine lv_iconst (v := 1) hx hb dX1_isFlagClashing_72 (by decide +kernel) ?_
      refine ro_calli (va_runV (As := [.int w1, .int 0, .int 1]) (rest := [.ref (a 112)]) ⟨hx, hb, hml, hown, hts⟩ (x_X1_saying l D s.heap.size .null a t i q c d w1 0 1 hI (show 0 ≤ w1.toInt ∧ w1.toInt ≤ 29 from by have h91 : (0 : Int32).toInt = 0 := (by decide +kernel); have h92 : (1 : Int32).toInt = 1 := (by decide +kernel); omega) (show 0 ≤ 0 ∧ 0 ≤ 5 from by decide +kernel)) (cwV 3 hts gm_X1_isFlagClashing_X1_saying_140 rfl rfl rfl (by decide +kernel) ⟨Nat.le_of_ble_eq_true rfl, Nat.le_of_ble_eq_true rfl⟩) (yA_V hN (xZ_k hZ hS hA) (xkT_B hK) (xuT_B (sk := sk) hP) (ci := 1) (q0 := 6) rfl rfl) rfl rfl hl.1 rfl (lv_room (Nat.le_of_ble_eq_true rfl)) dX1_isFlagClashing_73 ⟨Nat.le_of_ble_eq_true rfl, Nat.le_of_ble_eq_true rfl⟩) hS hA hP (fun r7 u7 H locs hw7 hP hS => ?_)
      have hw7 : (r7.toInt = -9 ∨ (0 ≤ r7.toInt ∧ r7.toInt ≤ 199)) := hw7
      refine al_calli (va_runV (As := [.int r7]) (rest := []) ⟨hx, hb, hml, hown, hts⟩ (x_X1_addClash l D H.size sk a t i q c d r7 hI (show r7.toInt = -9 ∨ (0 ≤ r7.toInt ∧ r7.toInt ≤ 199) from by omega)) (cwV 1 hts gm_X1_isFlagClashing_X1_addClash_121 rfl rfl rfl (by decide +kernel) ⟨Nat.le_of_ble_eq_true rfl, Nat.le_of_ble_eq_true rfl⟩) (yB_V hN (xZ_k hZ hS hA) (xZ_n hZ hD) hK hP hD (ci := 1) (q0 := 8) rfl rfl) rfl rfl hl.1 rfl (lv_room (Nat.le_of_ble_eq_true rfl)) dX1_isFlagClashing_76 ⟨Nat.le_of_ble_eq_true rfl, Nat.le_of_ble_eq_true rfl⟩) hS hA hP hD (fun r8 u8 H locs hw8 hP hD hS => ?_)
      obtain ⟨i8, q8, c8, d8⟩ := u8
      have hw8 : (0 ≤ r8.toInt ∧ r8.toInt ≤ 1) ∧ xInv i8 c8 ∧ (∀ k, k ∉ ([123] : List Nat) → i8 k = i k) ∧ (∀ k, k ∉ ([122] : List Nat) → c8 k = c k) := hw8
      obtain ⟨hw8, hI, hei8, hec8⟩ := hw8
      have hfi : ∀ k, k ∉ ([123] : List Nat) → i8 k = i k := fr_z hfi hei8 (by decide +kernel) (by decide +kernel)
      have hfc : ∀ k, k ∉ ([122] : List Nat) → c8 k = c k := fr_z hfc hec8 (by decide +kernel) (by decide +kernel)
      refine lv_if_eq (tgt := 86) hx hb dX1_isFlagClashing_79 (by decide +kernel) (fun c9 => ?_) (fun c9 => ?_)
      · have f9 := (ti_eq (a := r8.toInt) (b := 0) rfl (by decide +kernel)).mp c9
        refine lv_iconst (v := 0) hx hb dX1_isFlagClashing_86 (by decide +kernel) ?_
        refine lv_goto (tgt := 128) hx hb dX1_isFlagClashing_87 (by decide +kernel) ?_
        exact rw_zret (i8, q8, c8, d8) hx hb hr hlocks hS (hK.sub (tys' := []) [] rfl) hP hD rfl dX1_isFlagClashing_128 ⟨(show 0 ≤ (0 : Int32).toInt ∧ (0 : Int32).toInt ≤ 1 from by decide +kernel), hI, fr_w hfi (by decide +kernel), fr_w hfc (by decide +kernel)⟩
      · have f9 := mt (ti_eq (a := r8.toInt) (b := 0) rfl (by decide +kernel)).mpr c9
        refine lv_iconst (v := 1) hx hb dX1_isFlagClashing_82 (by decide +kernel) ?_
        refine lv_goto (tgt := 128) hx hb dX1_isFlagClashing_83 (by decide +kernel) ?_
        exact rw_zret (i8, q8, c8, d8) hx hb hr hlocks hS (hK.sub (tys' := []) [] rfl) hP hD rfl dX1_isFlagClashing_128 ⟨(show 0 ≤ (1 : Int32).toInt ∧ (1 : Int32).toInt ≤ 1 from by decide +kernel), hI, fr_w hfi (by decide +kernel), fr_w hfc (by decide +kernel)⟩
  · refine lv_tableIn (off := 126) (tgt := 127) hx hb dX1_isFlagClashing_1 (by omega) (by omega) (by rw [f1]; rfl) (by decide +kernel) ?_
    refine lv_iconst (v := 0) hx hb dX1_isFlagClashing_127 (by decide +kernel) ?_
    exact rw_zret (i, q, c, d) hx hb hr hlocks hS (hK.sub (tys' := []) [] rfl) hP hD rfl dX1_isFlagClashing_128 ⟨(show 0 ≤ (0 : Int32).toInt ∧ (0 : Int32).toInt ≤ 1 from by decide +kernel), hI, fr_w hfi (by decide +kernel), fr_w hfc (by decide +kernel)⟩
  · refine lv_tableIn (off := 126) (tgt := 127) hx hb dX1_isFlagClashing_1 (by omega) (by omega) (by rw [f1]; rfl) (by decide +kernel) ?_
    refine lv_iconst (v := 0) hx hb dX1_isFlagClashing_127 (by decide +kernel) ?_
    exact rw_zret (i, q, c, d) hx hb hr hlocks hS (hK.sub (tys' := []) [] rfl) hP hD rfl dX1_isFlagClashing_128 ⟨(show 0 ≤ (0 : Int32).toInt ∧ (0 : Int32).toInt ≤ 1 from by decide +kernel), hI, fr_w hfi (by decide +kernel), fr_w hfc (by decide +kernel)⟩
  · refine lv_tableIn (off := 89) (tgt := 90) hx hb dX1_isFlagClashing_1 (by omega) (by omega) (by rw [f1]; rfl) (by decide +kernel) ?_
    refine lv_iload_n hx hb dX1_isFlagClashing_90 rfl (lv_at hl 3 rfl) ?_
    refine lv_if_ne (tgt := 123) hx hb dX1_isFlagClashing_91 (by decide +kernel) (fun c10 => ?_) (fun c10 => ?_)
    · have f10 := mt (ti_eq (a := v1.toInt) (b := 0) rfl (by decide +kernel)).mpr c10
      refine lv_iconst (v := 0) hx hb dX1_isFlagClashing_123 (by decide +kernel) ?_
      refine lv_goto (tgt := 128) hx hb dX1_isFlagClashing_124 (by decide +kernel) ?_
      exact rw_zret (i, q, c, d) hx hb hr hlocks hS (hK.sub (tys' := []) [] rfl) hP hD rfl dX1_isFlagClashing_128 ⟨(show 0 ≤ (0 : Int32).toInt ∧ (0 : Int32).toInt ≤ 1 from by decide +kernel), hI, fr_w hfi (by decide +kernel), fr_w hfc (by decide +kernel)⟩
    · have f10 := (ti_eq (a := v1.toInt) (b := 0) rfl (by decide +kernel)).mp c10
      refine lv_aload_n hx hb dX1_isFlagClashing_94 rfl (lv_at hl 0 rfl) ?_
      refine xgT_B_places hx hb hts (fun _ h => List.mem_cons_of_mem _ (List.mem_append_left _ (List.mem_append_right _ h))) hown hK hP (hts (.fieldLink RX1 52 "TalePlay$Book" "places" "LTalePlay$Scene;") (List.mem_cons_of_mem _ (List.mem_append_left _ (List.mem_append_left _ (List.mem_append_left _ (List.mem_of_getElem? (i := 13) rfl)))))) dX1_isFlagClashing_95 ?_
      refine lv_iload_n hx hb dX1_isFlagClashing_98 rfl (lv_at hl 1 rfl) ?_
      refine ro_calli (va_runV (As := [.int w1]) (rest := []) ⟨hx, hb, hml, hown, hts⟩ (x_X6_formOf_BP l D s.heap.size .null a t i q c d w1 hI (show 0 ≤ w1.toInt ∧ w1.toInt ≤ 29 from by omega)) (cwV 1 hts gm_X1_isFlagClashing_X6_formOf_BP_149 rfl rfl rfl (by decide +kernel) ⟨Nat.le_of_ble_eq_true rfl, Nat.le_of_ble_eq_true rfl⟩) (yA_V hN (xZ_k hZ hS hA) (xkT_P0 hK) (xuT_P0 (sk := sk) hP) (ci := 6) (q0 := 0) rfl rfl) rfl rfl hl.1 rfl (lv_room (Nat.le_of_ble_eq_true rfl)) dX1_isFlagClashing_99 ⟨Nat.le_of_ble_eq_true rfl, Nat.le_of_ble_eq_true rfl⟩) hS hA hP (fun r11 u11 H locs hw11 hP hS => ?_)
      have hw11 : ((r11.toInt = -9 ∧ (c 127 w1.toNatClampNeg).toInt % 256 = 255) ∨ (0 ≤ r11.toInt ∧ r11.toInt ≤ 4 ∧ ¬ (c 127 w1.toNatClampNeg).toInt % 256 = 255 ∧ r11.toInt = (c 127 w1.toNatClampNeg).toInt % 8)) := hw11
      refine lv_iconst (v := 3) hx hb dX1_isFlagClashing_102 (by decide +kernel) ?_
      refine lv_icmp_ne (tgt := 123) hx hb dX1_isFlagClashing_103 (by decide +kernel) (fun c12 => ?_) (fun c12 => ?_)
      · have f12 := mt (ti_eq (a := r11.toInt) (b := 3) rfl (by decide +kernel)).mpr c12
        refine lv_iconst (v := 0) hx hb dX1_isFlagClashing_123 (by decide +kernel) ?_
        refine lv_goto (tgt := 128) hx hb dX1_isFlagClashing_124 (by decide +kernel) ?_
        exact rw_zret (i, q, c, d) hx hb hr hlocks hS (hK.sub (tys' := []) [] rfl) hP hD rfl dX1_isFlagClashing_128 ⟨(show 0 ≤ (0 : Int32).toInt ∧ (0 : Int32).toInt ≤ 1 from by decide +kernel), hI, fr_w hfi (by decide +kernel), fr_w hfc (by decide +kernel)⟩
      · have f12 := (ti_eq (a := r11.toInt) (b := 3) rfl (by decide +kernel)).mp c12
        refine lv_aload_n hx hb dX1_isFlagClashing_106 rfl (lv_at hl 0 rfl) ?_
        refine lv_aload_n hx hb dX1_isFlagClashing_107 rfl (lv_at hl 0 rfl) ?_
        refine xgT_B_placeBy hx hb hts (fun _ h => List.mem_cons_of_mem _ (List.mem_append_left _ (List.mem_append_right _ h))) hown hK hP (hts (.fieldLink RX1 28 "TalePlay$Book" "placeBy" "[I") (List.mem_cons_of_mem _ (List.mem_append_left _ (List.mem_append_left _ (List.mem_append_right _ (List.mem_of_getElem? (i := 4) rfl)))))) dX1_isFlagClashing_108 ?_
        refine lv_iload_n hx hb dX1_isFlagClashing_111 rfl (lv_at hl 1 rfl) ?_
        refine xlT_118 hx hb hK hP (vp_in_iff.mpr (by have h9 : w1.toInt = w1.toInt := rfl; omega)) dX1_isFlagClashing_112 (fun x13 ex13 => ?_)
        have rx13 : x13.toInt = -9 ∨ (0 ≤ x13.toInt ∧ x13.toInt ≤ 199) := by rw [ex13]; exact hI.2 118 _
        refine al_calli (va_runV (As := [.int x13]) (rest := []) ⟨hx, hb, hml, hown, hts⟩ (x_X1_addClash l D H.size sk a t i q c d x13 hI (show x13.toInt = -9 ∨ (0 ≤ x13.toInt ∧ x13.toInt ≤ 199) from by omega)) (cwV 1 hts gm_X1_isFlagClashing_X1_addClash_121 rfl rfl rfl (by decide +kernel) ⟨Nat.le_of_ble_eq_true rfl, Nat.le_of_ble_eq_true rfl⟩) (yB_V hN (xZ_k hZ hS hA) (xZ_n hZ hD) hK hP hD (ci := 1) (q0 := 8) rfl rfl) rfl rfl hl.1 rfl (lv_room (Nat.le_of_ble_eq_true rfl)) dX1_isFlagClashing_113 ⟨Nat.le_of_ble_eq_true rfl, Nat.le_of_ble_eq_true rfl⟩) hS hA hP hD (fun r14 u14 H locs hw14 hP hD hS => ?_)
        obtain ⟨i14, q14, c14, d14⟩ := u14
        have hw14 : (0 ≤ r14.toInt ∧ r14.toInt ≤ 1) ∧ xInv i14 c14 ∧ (∀ k, k ∉ ([123] : List Nat) → i14 k = i k) ∧ (∀ k, k ∉ ([122] : List Nat) → c14 k = c k) := hw14
        obtain ⟨hw14, hI, hei14, hec14⟩ := hw14
        have hfi : ∀ k, k ∉ ([123] : List Nat) → i14 k = i k := fr_z hfi hei14 (by decide +kernel) (by decide +kernel)
        have hfc : ∀ k, k ∉ ([122] : List Nat) → c14 k = c k := fr_z hfc hec14 (by decide +kernel) (by decide +kernel)
        refine lv_if_eq (tgt := 123) hx hb dX1_isFlagClashing_116 (by decide +kernel) (fun c15 => ?_) (fun c15 => ?_)
        · have f15 := (ti_eq (a := r14.toInt) (b := 0) rfl (by decide +kernel)).mp c15
          refine lv_iconst (v := 0) hx hb dX1_isFlagClashing_123 (by decide +kernel) ?_
          refine lv_goto (tgt := 128) hx hb dX1_isFlagClashing_124 (by decide +kernel) ?_
          exact rw_zret (i14, q14, c14, d14) hx hb hr hlocks hS (hK.sub (tys' := []) [] rfl) hP hD rfl dX1_isFlagClashing_128 ⟨(show 0 ≤ (0 : Int32).toInt ∧ (0 : Int32).toInt ≤ 1 from by decide +kernel), hI, fr_w hfi (by decide +kernel), fr_w hfc (by decide +kernel)⟩
        · have f15 := mt (ti_eq (a := r14.toInt) (b := 0) rfl (by decide +kernel)).mpr c15
          refine lv_iconst (v := 1) hx hb dX1_isFlagClashing_119 (by decide +kernel) ?_
          refine lv_goto (tgt := 128) hx hb dX1_isFlagClashing_120 (by decide +kernel) ?_
          exact rw_zret (i14, q14, c14, d14) hx hb hr hlocks hS (hK.sub (tys' := []) [] rfl) hP hD rfl dX1_isFlagClashing_128 ⟨(show 0 ≤ (1 : Int32).toInt ∧ (1 : Int32).toInt ≤ 1 from by decide +kernel), hI, fr_w hfi (by decide +kernel), fr_w hfc (by decide +kernel)⟩

def wm_X1_isClashing : List Cond := .code yX1_isClashing cX1_isClashing 5 (some .boolean) :: ((([.methodLink RX1 88 yX1_standingFor, .instanceMethod yX1_standingFor, .selects RX1 yX1_standingFor yX1_standingFor, .initialized RX1, .code yX1_standingFor cX1_standingFor 5 (some .int), .fieldLink RX1 28 "TalePlay$Book" "placeBy" "[I", .fieldLink RX1 31 "TalePlay$Book" "exitBy" "[I", .fieldLink RX1 34 "TalePlay$Book" "flagBy" "[I", .fieldLink RX1 37 "TalePlay$Book" "keyBy" "[I", .methodLink RX1 121 yX1_addClash, .instanceMethod yX1_addClash, .selects RX1 yX1_addClash yX1_addClash, .code yX1_addClash cX1_addClash 2 (some .boolean), .fieldLink RX1 118 "TalePlay$Book" "clashes" "I", .fieldLink RX1 40 "TalePlay$Book" "clashRow" "[I", .methodLink RX1 131 yX1_isPlaceClashing] : List Cond) ++ (([.instanceMethod yX1_isPlaceClashing, .selects RX1 yX1_isPlaceClashing yX1_isPlaceClashing, .code yX1_isPlaceClashing cX1_isPlaceClashing 4 (some .boolean), .fieldLink RX1 52 "TalePlay$Book" "places" "LTalePlay$Scene;", .methodLink RX1 134 yX6_isUp, .instanceMethod yX6_isUp, .selects RX6 yX6_isUp yX6_isUp, .initialized RX6, .code yX6_isUp cX6_isUp 5 (some .boolean), .methodLink RX6 25 yX6_holderOf, .instanceMethod yX6_holderOf, .selects RX6 yX6_holderOf yX6_holderOf, .code yX6_holderOf cX6_holderOf 3 (some .int), .fieldLink RX6 9 "TalePlay$Scene" "cells" "[I", .methodLink RX1 140 yX1_saying, .instanceMethod yX1_saying] : List Cond) ++ (([.selects RX1 yX1_saying yX1_saying, .code yX1_saying cX1_saying 5 (some .int), .fieldLink RX1 21 "TalePlay$Book" "cs" "[I", .methodLink RX1 137 yX1_addChain, .instanceMethod yX1_addChain, .selects RX1 yX1_addChain yX1_addChain, .code yX1_addChain cX1_addChain 5 none, .methodLink RX1 143 yX6_holderOf, .fieldLink RX1 43 "TalePlay$Book" "world" "LTalePlay$World;", .methodLink RX1 72 yX10_sortOf, .instanceMethod yX10_sortOf, .selects RX10 yX10_sortOf yX10_sortOf, .initialized RX10, .code yX10_sortOf cX10_sortOf 2 (some .int), .fieldLink RX10 37 "TalePlay$World" "objects" "I", .fieldLink RX10 15 "TalePlay$World" "sorts" "[I"] : List Cond) ++ (([.fieldLink RX10 21 "TalePlay$World" "kindOf" "[I", .methodLink RX1 124 yX1_isDoorClashing, .instanceMethod yX1_isDoorClashing, .selects RX1 yX1_isDoorClashing yX1_isDoorClashing, .code yX1_isDoorClashing cX1_isDoorClashing 5 (some .boolean), .fieldLink RX1 92 "TalePlay$Book" "total" "I", .methodLink RX1 146 yX1_clearClash, .instanceMethod yX1_clearClash, .selects RX1 yX1_clearClash yX1_clearClash, .code yX1_clearClash cX1_clearClash 1 none, .fieldLink RX1 24 "TalePlay$Book" "said" "[Z", .fieldLink RX1 9 "TalePlay$Book" "forms" "[I", .fieldLink RX1 18 "TalePlay$Book" "bs" "[I", .methodLink RX1 127 yX1_isFlagClashing, .instanceMethod yX1_isFlagClashing, .selects RX1 yX1_isFlagClashing yX1_isFlagClashing] : List Cond) ++ ([.code yX1_isFlagClashing cX1_isFlagClashing 4 (some .boolean), .methodLink RX1 149 yX6_formOf, .instanceMethod yX6_formOf, .selects RX6 yX6_formOf yX6_formOf, .code yX6_formOf cX6_formOf 3 (some .int)] : List Cond))))) ++ wsX10 ++ wsX60 ++ wsX100)
set_option maxRecDepth 20000 in
theorem gm_X1_isClashing_X1_standingFor_88 : GoodIn wm_X1_isClashing (wsV RX1 88 RX1 yX1_standingFor wm_X1_standingFor) := goodIn_w (List.forall_mem_append.mpr ⟨List.forall_mem_cons.mpr ⟨List.mem_cons_of_mem _ (List.mem_append_left _ (List.mem_append_left _ (List.mem_append_left _ (List.mem_append_left _ (List.mem_of_getElem? (i := 0) rfl))))), List.forall_mem_cons.mpr ⟨List.mem_cons_of_mem _ (List.mem_append_left _ (List.mem_append_left _ (List.mem_append_left _ (List.mem_append_left _ (List.mem_of_getElem? (i := 1) rfl))))), List.forall_mem_cons.mpr ⟨List.mem_cons_of_mem _ (List.mem_append_left _ (List.mem_append_left _ (List.mem_append_left _ (List.mem_append_left _ (List.mem_of_getElem? (i := 2) rfl))))), List.forall_mem_cons.mpr ⟨List.mem_cons_of_mem _ (List.mem_append_left _ (List.mem_append_left _ (List.mem_append_left _ (List.mem_append_left _ (List.mem_of_getElem? (i := 3) rfl))))), (fun _ h => absurd h List.not_mem_nil)⟩⟩⟩⟩, List.forall_mem_cons.mpr ⟨List.mem_cons_of_mem _ (List.mem_append_left _ (List.mem_append_left _ (List.mem_append_left _ (List.mem_append_left _ (List.mem_of_getElem? (i := 4) rfl))))), List.forall_mem_append.mpr ⟨List.forall_mem_cons.mpr ⟨List.mem_cons_of_mem _ (List.mem_append_left _ (List.mem_append_left _ (List.mem_append_left _ (List.mem_append_left _ (List.mem_of_getElem? (i := 5) rfl))))), List.forall_mem_cons.mpr ⟨List.mem_cons_of_mem _ (List.mem_append_left _ (List.mem_append_left _ (List.mem_append_left _ (List.mem_append_left _ (List.mem_of_getElem? (i := 6) rfl))))), List.forall_mem_cons.mpr ⟨List.mem_cons_of_mem _ (List.mem_append_left _ (List.mem_append_left _ (List.mem_append_left _ (List.mem_append_left _ (List.mem_of_getElem? (i := 7) rfl))))), List.forall_mem_cons.mpr ⟨List.mem_cons_of_mem _ (List.mem_append_left _ (List.mem_append_left _ (List.mem_append_left _ (List.mem_append_left _ (List.mem_of_getElem? (i := 8) rfl))))), (fun _ h => absurd h List.not_mem_nil)⟩⟩⟩⟩, (fun _ h => List.mem_cons_of_mem _ (List.mem_append_left _ (List.mem_append_left _ (List.mem_append_right _ h))))⟩⟩⟩) (by decide +kernel)
set_option maxRecDepth 20000 in
theorem gm_X1_isClashing_X1_addClash_121 : GoodIn wm_X1_isClashing (wsV RX1 121 RX1 yX1_addClash wm_X1_addClash) := goodIn_w (List.forall_mem_append.mpr ⟨List.forall_mem_cons.mpr ⟨List.mem_cons_of_mem _ (List.mem_append_left _ (List.mem_append_left _ (List.mem_append_left _ (List.mem_append_left _ (List.mem_of_getElem? (i := 9) rfl))))), List.forall_mem_cons.mpr ⟨List.mem_cons_of_mem _ (List.mem_append_left _ (List.mem_append_left _ (List.mem_append_left _ (List.mem_append_left _ (List.mem_of_getElem? (i := 10) rfl))))), List.forall_mem_cons.mpr ⟨List.mem_cons_of_mem _ (List.mem_append_left _ (List.mem_append_left _ (List.mem_append_left _ (List.mem_append_left _ (List.mem_of_getElem? (i := 11) rfl))))), List.forall_mem_cons.mpr ⟨List.mem_cons_of_mem _ (List.mem_append_left _ (List.mem_append_left _ (List.mem_append_left _ (List.mem_append_left _ (List.mem_of_getElem? (i := 3) rfl))))), (fun _ h => absurd h List.not_mem_nil)⟩⟩⟩⟩, List.forall_mem_cons.mpr ⟨List.mem_cons_of_mem _ (List.mem_append_left _ (List.mem_append_left _ (List.mem_append_left _ (List.mem_append_left _ (List.mem_of_getElem? (i := 12) rfl))))), List.forall_mem_append.mpr ⟨List.forall_mem_cons.mpr ⟨List.mem_cons_of_mem _ (List.mem_append_left _ (List.mem_append_left _ (List.mem_append_left _ (List.mem_append_left _ (List.mem_of_getElem? (i := 13) rfl))))), List.forall_mem_cons.mpr ⟨List.mem_cons_of_mem _ (List.mem_append_left _ (List.mem_append_left _ (List.mem_append_left _ (List.mem_append_left _ (List.mem_of_getElem? (i := 14) rfl))))), (fun _ h => absurd h List.not_mem_nil)⟩⟩, (fun _ h => List.mem_cons_of_mem _ (List.mem_append_left _ (List.mem_append_left _ (List.mem_append_right _ h))))⟩⟩⟩) (by decide +kernel)
set_option maxRecDepth 20000 in
theorem gm_X1_isClashing_X1_isPlaceClashing_131 : GoodIn wm_X1_isClashing (wsV RX1 131 RX1 yX1_isPlaceClashing wm_X1_isPlaceClashing) := goodIn_w (List.forall_mem_append.mpr ⟨List.forall_mem_cons.mpr ⟨List.mem_cons_of_mem _ (List.mem_append_left _ (List.mem_append_left _ (List.mem_append_left _ (List.mem_append_left _ (List.mem_of_getElem? (i := 15) rfl))))), List.forall_mem_cons.mpr ⟨List.mem_cons_of_mem _ (List.mem_append_left _ (List.mem_append_left _ (List.mem_append_left _ (List.mem_append_right _ (List.mem_append_left _ (List.mem_of_getElem? (i := 0) rfl)))))), List.forall_mem_cons.mpr ⟨List.mem_cons_of_mem _ (List.mem_append_left _ (List.mem_append_left _ (List.mem_append_left _ (List.mem_append_right _ (List.mem_append_left _ (List.mem_of_getElem? (i := 1) rfl)))))), List.forall_mem_cons.mpr ⟨List.mem_cons_of_mem _ (List.mem_append_left _ (List.mem_append_left _ (List.mem_append_left _ (List.mem_append_left _ (List.mem_of_getElem? (i := 3) rfl))))), (fun _ h => absurd h List.not_mem_nil)⟩⟩⟩⟩, List.forall_mem_cons.mpr ⟨List.mem_cons_of_mem _ (List.mem_append_left _ (List.mem_append_left _ (List.mem_append_left _ (List.mem_append_right _ (List.mem_append_left _ (List.mem_of_getElem? (i := 2) rfl)))))), List.forall_mem_append.mpr ⟨List.forall_mem_append.mpr ⟨List.forall_mem_append.mpr ⟨List.forall_mem_cons.mpr ⟨List.mem_cons_of_mem _ (List.mem_append_left _ (List.mem_append_left _ (List.mem_append_left _ (List.mem_append_right _ (List.mem_append_left _ (List.mem_of_getElem? (i := 3) rfl)))))), List.forall_mem_cons.mpr ⟨List.mem_cons_of_mem _ (List.mem_append_left _ (List.mem_append_left _ (List.mem_append_left _ (List.mem_append_right _ (List.mem_append_left _ (List.mem_of_getElem? (i := 4) rfl)))))), List.forall_mem_cons.mpr ⟨List.mem_cons_of_mem _ (List.mem_append_left _ (List.mem_append_left _ (List.mem_append_left _ (List.mem_append_right _ (List.mem_append_left _ (List.mem_of_getElem? (i := 5) rfl)))))), List.forall_mem_cons.mpr ⟨List.mem_cons_of_mem _ (List.mem_append_left _ (List.mem_append_left _ (List.mem_append_left _ (List.mem_append_right _ (List.mem_append_left _ (List.mem_of_getElem? (i := 6) rfl)))))), List.forall_mem_cons.mpr ⟨List.mem_cons_of_mem _ (List.mem_append_left _ (List.mem_append_left _ (List.mem_append_left _ (List.mem_append_right _ (List.mem_append_left _ (List.mem_of_getElem? (i := 7) rfl)))))), List.forall_mem_cons.mpr ⟨List.mem_cons_of_mem _ (List.mem_append_left _ (List.mem_append_left _ (List.mem_append_left _ (List.mem_append_right _ (List.mem_append_left _ (List.mem_of_getElem? (i := 8) rfl)))))), List.forall_mem_cons.mpr ⟨List.mem_cons_of_mem _ (List.mem_append_left _ (List.mem_append_left _ (List.mem_append_left _ (List.mem_append_right _ (List.mem_append_left _ (List.mem_of_getElem? (i := 9) rfl)))))), List.forall_mem_cons.mpr ⟨List.mem_cons_of_mem _ (List.mem_append_left _ (List.mem_append_left _ (List.mem_append_left _ (List.mem_append_right _ (List.mem_append_left _ (List.mem_of_getElem? (i := 10) rfl)))))), List.forall_mem_cons.mpr ⟨List.mem_cons_of_mem _ (List.mem_append_left _ (List.mem_append_left _ (List.mem_append_left _ (List.mem_append_right _ (List.mem_append_left _ (List.mem_of_getElem? (i := 11) rfl)))))), List.forall_mem_cons.mpr ⟨List.mem_cons_of_mem _ (List.mem_append_left _ (List.mem_append_left _ (List.mem_append_left _ (List.mem_append_right _ (List.mem_append_left _ (List.mem_of_getElem? (i := 12) rfl)))))), List.forall_mem_cons.mpr ⟨List.mem_cons_of_mem _ (List.mem_append_left _ (List.mem_append_left _ (List.mem_append_left _ (List.mem_append_right _ (List.mem_append_left _ (List.mem_of_getElem? (i := 13) rfl)))))), List.forall_mem_cons.mpr ⟨List.mem_cons_of_mem _ (List.mem_append_left _ (List.mem_append_left _ (List.mem_append_left _ (List.mem_append_right _ (List.mem_append_left _ (List.mem_of_getElem? (i := 14) rfl)))))), List.forall_mem_cons.mpr ⟨List.mem_cons_of_mem _ (List.mem_append_left _ (List.mem_append_left _ (List.mem_append_left _ (List.mem_append_right _ (List.mem_append_left _ (List.mem_of_getElem? (i := 15) rfl)))))), List.forall_mem_cons.mpr ⟨List.mem_cons_of_mem _ (List.mem_append_left _ (List.mem_append_left _ (List.mem_append_left _ (List.mem_append_right _ (List.mem_append_right _ (List.mem_append_left _ (List.mem_of_getElem? (i := 0) rfl))))))), List.forall_mem_cons.mpr ⟨List.mem_cons_of_mem _ (List.mem_append_left _ (List.mem_append_left _ (List.mem_append_left _ (List.mem_append_left _ (List.mem_of_getElem? (i := 3) rfl))))), List.forall_mem_cons.mpr ⟨List.mem_cons_of_mem _ (List.mem_append_left _ (List.mem_append_left _ (List.mem_append_left _ (List.mem_append_right _ (List.mem_append_right _ (List.mem_append_left _ (List.mem_of_getElem? (i := 1) rfl))))))), (fun _ h => absurd h List.not_mem_nil)⟩⟩⟩⟩⟩⟩⟩⟩⟩⟩⟩⟩⟩⟩⟩⟩, List.forall_mem_cons.mpr ⟨List.mem_cons_of_mem _ (List.mem_append_left _ (List.mem_append_left _ (List.mem_append_left _ (List.mem_append_left _ (List.mem_of_getElem? (i := 7) rfl))))), List.forall_mem_cons.mpr ⟨List.mem_cons_of_mem _ (List.mem_append_left _ (List.mem_append_left _ (List.mem_append_left _ (List.mem_append_right _ (List.mem_append_right _ (List.mem_append_left _ (List.mem_of_getElem? (i := 2) rfl))))))), List.forall_mem_cons.mpr ⟨List.mem_cons_of_mem _ (List.mem_append_left _ (List.mem_append_left _ (List.mem_append_left _ (List.mem_append_left _ (List.mem_of_getElem? (i := 9) rfl))))), List.forall_mem_cons.mpr ⟨List.mem_cons_of_mem _ (List.mem_append_left _ (List.mem_append_left _ (List.mem_append_left _ (List.mem_append_left _ (List.mem_of_getElem? (i := 10) rfl))))), List.forall_mem_cons.mpr ⟨List.mem_cons_of_mem _ (List.mem_append_left _ (List.mem_append_left _ (List.mem_append_left _ (List.mem_append_left _ (List.mem_of_getElem? (i := 11) rfl))))), List.forall_mem_cons.mpr ⟨List.mem_cons_of_mem _ (List.mem_append_left _ (List.mem_append_left _ (List.mem_append_left _ (List.mem_append_left _ (List.mem_of_getElem? (i := 12) rfl))))), List.forall_mem_cons.mpr ⟨List.mem_cons_of_mem _ (List.mem_append_left _ (List.mem_append_left _ (List.mem_append_left _ (List.mem_append_left _ (List.mem_of_getElem? (i := 13) rfl))))), List.forall_mem_cons.mpr ⟨List.mem_cons_of_mem _ (List.mem_append_left _ (List.mem_append_left _ (List.mem_append_left _ (List.mem_append_left _ (List.mem_of_getElem? (i := 14) rfl))))), List.forall_mem_cons.mpr ⟨List.mem_cons_of_mem _ (List.mem_append_left _ (List.mem_append_left _ (List.mem_append_left _ (List.mem_append_right _ (List.mem_append_right _ (List.mem_append_left _ (List.mem_of_getElem? (i := 3) rfl))))))), List.forall_mem_cons.mpr ⟨List.mem_cons_of_mem _ (List.mem_append_left _ (List.mem_append_left _ (List.mem_append_left _ (List.mem_append_right _ (List.mem_append_right _ (List.mem_append_left _ (List.mem_of_getElem? (i := 4) rfl))))))), List.forall_mem_cons.mpr ⟨List.mem_cons_of_mem _ (List.mem_append_left _ (List.mem_append_left _ (List.mem_append_left _ (List.mem_append_right _ (List.mem_append_right _ (List.mem_append_left _ (List.mem_of_getElem? (i := 5) rfl))))))), List.forall_mem_cons.mpr ⟨List.mem_cons_of_mem _ (List.mem_append_left _ (List.mem_append_left _ (List.mem_append_left _ (List.mem_append_right _ (List.mem_append_right _ (List.mem_append_left _ (List.mem_of_getElem? (i := 6) rfl))))))), List.forall_mem_cons.mpr ⟨List.mem_cons_of_mem _ (List.mem_append_left _ (List.mem_append_left _ (List.mem_append_left _ (List.mem_append_left _ (List.mem_of_getElem? (i := 5) rfl))))), List.forall_mem_cons.mpr ⟨List.mem_cons_of_mem _ (List.mem_append_left _ (List.mem_append_left _ (List.mem_append_left _ (List.mem_append_right _ (List.mem_append_right _ (List.mem_append_left _ (List.mem_of_getElem? (i := 7) rfl))))))), (fun _ h => absurd h List.not_mem_nil)⟩⟩⟩⟩⟩⟩⟩⟩⟩⟩⟩⟩⟩⟩⟩, (fun _ h => List.mem_cons_of_mem _ (List.mem_append_left _ (List.mem_append_left _ (List.mem_append_right _ h))))⟩, (fun _ h => List.mem_cons_of_mem _ (List.mem_append_left _ (List.mem_append_right _ h)))⟩⟩⟩) (by decide +kernel)
set_option maxRecDepth 20000 in
theorem gm_X1_isClashing_X10_sortOf_72 : GoodIn wm_X1_isClashing (wsV RX1 72 RX10 yX10_sortOf wm_X10_sortOf) := goodIn_w (List.forall_mem_append.mpr ⟨List.forall_mem_cons.mpr ⟨List.mem_cons_of_mem _ (List.mem_append_left _ (List.mem_append_left _ (List.mem_append_left _ (List.mem_append_right _ (List.mem_append_right _ (List.mem_append_left _ (List.mem_of_getElem? (i := 9) rfl))))))), List.forall_mem_cons.mpr ⟨List.mem_cons_of_mem _ (List.mem_append_left _ (List.mem_append_left _ (List.mem_append_left _ (List.mem_append_right _ (List.mem_append_right _ (List.mem_append_left _ (List.mem_of_getElem? (i := 10) rfl))))))), List.forall_mem_cons.mpr ⟨List.mem_cons_of_mem _ (List.mem_append_left _ (List.mem_append_left _ (List.mem_append_left _ (List.mem_append_right _ (List.mem_append_right _ (List.mem_append_left _ (List.mem_of_getElem? (i := 11) rfl))))))), List.forall_mem_cons.mpr ⟨List.mem_cons_of_mem _ (List.mem_append_left _ (List.mem_append_left _ (List.mem_append_left _ (List.mem_append_right _ (List.mem_append_right _ (List.mem_append_left _ (List.mem_of_getElem? (i := 12) rfl))))))), (fun _ h => absurd h List.not_mem_nil)⟩⟩⟩⟩, List.forall_mem_cons.mpr ⟨List.mem_cons_of_mem _ (List.mem_append_left _ (List.mem_append_left _ (List.mem_append_left _ (List.mem_append_right _ (List.mem_append_right _ (List.mem_append_left _ (List.mem_of_getElem? (i := 13) rfl))))))), List.forall_mem_append.mpr ⟨List.forall_mem_cons.mpr ⟨List.mem_cons_of_mem _ (List.mem_append_left _ (List.mem_append_left _ (List.mem_append_left _ (List.mem_append_right _ (List.mem_append_right _ (List.mem_append_left _ (List.mem_of_getElem? (i := 14) rfl))))))), List.forall_mem_cons.mpr ⟨List.mem_cons_of_mem _ (List.mem_append_left _ (List.mem_append_left _ (List.mem_append_left _ (List.mem_append_right _ (List.mem_append_right _ (List.mem_append_left _ (List.mem_of_getElem? (i := 15) rfl))))))), List.forall_mem_cons.mpr ⟨List.mem_cons_of_mem _ (List.mem_append_left _ (List.mem_append_left _ (List.mem_append_left _ (List.mem_append_right _ (List.mem_append_right _ (List.mem_append_right _ (List.mem_append_left _ (List.mem_of_getElem? (i := 0) rfl)))))))), (fun _ h => absurd h List.not_mem_nil)⟩⟩⟩, (fun _ h => List.mem_cons_of_mem _ (List.mem_append_right _ h))⟩⟩⟩) (by decide +kernel)
set_option maxRecDepth 20000 in
theorem gm_X1_isClashing_X1_isDoorClashing_124 : GoodIn wm_X1_isClashing (wsV RX1 124 RX1 yX1_isDoorClashing wm_X1_isDoorClashing) := goodIn_w (List.forall_mem_append.mpr ⟨List.forall_mem_cons.mpr ⟨List.mem_cons_of_mem _ (List.mem_append_left _ (List.mem_append_left _ (List.mem_append_left _ (List.mem_append_right _ (List.mem_append_right _ (List.mem_append_right _ (List.mem_append_left _ (List.mem_of_getElem? (i := 1) rfl)))))))), List.forall_mem_cons.mpr ⟨List.mem_cons_of_mem _ (List.mem_append_left _ (List.mem_append_left _ (List.mem_append_left _ (List.mem_append_right _ (List.mem_append_right _ (List.mem_append_right _ (List.mem_append_left _ (List.mem_of_getElem? (i := 2) rfl)))))))), List.forall_mem_cons.mpr ⟨List.mem_cons_of_mem _ (List.mem_append_left _ (List.mem_append_left _ (List.mem_append_left _ (List.mem_append_right _ (List.mem_append_right _ (List.mem_append_right _ (List.mem_append_left _ (List.mem_of_getElem? (i := 3) rfl)))))))), List.forall_mem_cons.mpr ⟨List.mem_cons_of_mem _ (List.mem_append_left _ (List.mem_append_left _ (List.mem_append_left _ (List.mem_append_left _ (List.mem_of_getElem? (i := 3) rfl))))), (fun _ h => absurd h List.not_mem_nil)⟩⟩⟩⟩, List.forall_mem_cons.mpr ⟨List.mem_cons_of_mem _ (List.mem_append_left _ (List.mem_append_left _ (List.mem_append_left _ (List.mem_append_right _ (List.mem_append_right _ (List.mem_append_right _ (List.mem_append_left _ (List.mem_of_getElem? (i := 4) rfl)))))))), List.forall_mem_append.mpr ⟨List.forall_mem_cons.mpr ⟨List.mem_cons_of_mem _ (List.mem_append_left _ (List.mem_append_left _ (List.mem_append_left _ (List.mem_append_right _ (List.mem_append_right _ (List.mem_append_right _ (List.mem_append_left _ (List.mem_of_getElem? (i := 5) rfl)))))))), List.forall_mem_cons.mpr ⟨List.mem_cons_of_mem _ (List.mem_append_left _ (List.mem_append_left _ (List.mem_append_left _ (List.mem_append_left _ (List.mem_of_getElem? (i := 13) rfl))))), List.forall_mem_cons.mpr ⟨List.mem_cons_of_mem _ (List.mem_append_left _ (List.mem_append_left _ (List.mem_append_left _ (List.mem_append_right _ (List.mem_append_right _ (List.mem_append_right _ (List.mem_append_left _ (List.mem_of_getElem? (i := 6) rfl)))))))), List.forall_mem_cons.mpr ⟨List.mem_cons_of_mem _ (List.mem_append_left _ (List.mem_append_left _ (List.mem_append_left _ (List.mem_append_right _ (List.mem_append_right _ (List.mem_append_right _ (List.mem_append_left _ (List.mem_of_getElem? (i := 7) rfl)))))))), List.forall_mem_cons.mpr ⟨List.mem_cons_of_mem _ (List.mem_append_left _ (List.mem_append_left _ (List.mem_append_left _ (List.mem_append_right _ (List.mem_append_right _ (List.mem_append_right _ (List.mem_append_left _ (List.mem_of_getElem? (i := 8) rfl)))))))), List.forall_mem_cons.mpr ⟨List.mem_cons_of_mem _ (List.mem_append_left _ (List.mem_append_left _ (List.mem_append_left _ (List.mem_append_left _ (List.mem_of_getElem? (i := 3) rfl))))), List.forall_mem_cons.mpr ⟨List.mem_cons_of_mem _ (List.mem_append_left _ (List.mem_append_left _ (List.mem_append_left _ (List.mem_append_right _ (List.mem_append_right _ (List.mem_append_right _ (List.mem_append_left _ (List.mem_of_getElem? (i := 9) rfl)))))))), List.forall_mem_cons.mpr ⟨List.mem_cons_of_mem _ (List.mem_append_left _ (List.mem_append_left _ (List.mem_append_left _ (List.mem_append_right _ (List.mem_append_right _ (List.mem_append_right _ (List.mem_append_left _ (List.mem_of_getElem? (i := 10) rfl)))))))), List.forall_mem_cons.mpr ⟨List.mem_cons_of_mem _ (List.mem_append_left _ (List.mem_append_left _ (List.mem_append_left _ (List.mem_append_right _ (List.mem_append_right _ (List.mem_append_right _ (List.mem_append_left _ (List.mem_of_getElem? (i := 11) rfl)))))))), List.forall_mem_cons.mpr ⟨List.mem_cons_of_mem _ (List.mem_append_left _ (List.mem_append_left _ (List.mem_append_left _ (List.mem_append_right _ (List.mem_append_right _ (List.mem_append_right _ (List.mem_append_left _ (List.mem_of_getElem? (i := 12) rfl)))))))), List.forall_mem_cons.mpr ⟨List.mem_cons_of_mem _ (List.mem_append_left _ (List.mem_append_left _ (List.mem_append_left _ (List.mem_append_left _ (List.mem_of_getElem? (i := 9) rfl))))), List.forall_mem_cons.mpr ⟨List.mem_cons_of_mem _ (List.mem_append_left _ (List.mem_append_left _ (List.mem_append_left _ (List.mem_append_left _ (List.mem_of_getElem? (i := 10) rfl))))), List.forall_mem_cons.mpr ⟨List.mem_cons_of_mem _ (List.mem_append_left _ (List.mem_append_left _ (List.mem_append_left _ (List.mem_append_left _ (List.mem_of_getElem? (i := 11) rfl))))), List.forall_mem_cons.mpr ⟨List.mem_cons_of_mem _ (List.mem_append_left _ (List.mem_append_left _ (List.mem_append_left _ (List.mem_append_left _ (List.mem_of_getElem? (i := 12) rfl))))), List.forall_mem_cons.mpr ⟨List.mem_cons_of_mem _ (List.mem_append_left _ (List.mem_append_left _ (List.mem_append_left _ (List.mem_append_left _ (List.mem_of_getElem? (i := 14) rfl))))), List.forall_mem_cons.mpr ⟨List.mem_cons_of_mem _ (List.mem_append_left _ (List.mem_append_left _ (List.mem_append_left _ (List.mem_append_left _ (List.mem_of_getElem? (i := 6) rfl))))), (fun _ h => absurd h List.not_mem_nil)⟩⟩⟩⟩⟩⟩⟩⟩⟩⟩⟩⟩⟩⟩⟩⟩, (fun _ h => List.mem_cons_of_mem _ (List.mem_append_left _ (List.mem_append_left _ (List.mem_append_right _ h))))⟩⟩⟩) (by decide +kernel)
set_option maxRecDepth 20000 in
theorem gm_X1_isClashing_X1_isFlagClashing_127 : GoodIn wm_X1_isClashing (wsV RX1 127 RX1 yX1_isFlagClashing wm_X1_isFlagClashing) := goodIn_w (List.forall_mem_append.mpr ⟨List.forall_mem_cons.mpr ⟨List.mem_cons_of_mem _ (List.mem_append_left _ (List.mem_append_left _ (List.mem_append_left _ (List.mem_append_right _ (List.mem_append_right _ (List.mem_append_right _ (List.mem_append_left _ (List.mem_of_getElem? (i := 13) rfl)))))))), List.forall_mem_cons.mpr ⟨List.mem_cons_of_mem _ (List.mem_append_left _ (List.mem_append_left _ (List.mem_append_left _ (List.mem_append_right _ (List.mem_append_right _ (List.mem_append_right _ (List.mem_append_left _ (List.mem_of_getElem? (i := 14) rfl)))))))), List.forall_mem_cons.mpr ⟨List.mem_cons_of_mem _ (List.mem_append_left _ (List.mem_append_left _ (List.mem_append_left _ (List.mem_append_right _ (List.mem_append_right _ (List.mem_append_right _ (List.mem_append_left _ (List.mem_of_getElem? (i := 15) rfl)))))))), List.forall_mem_cons.mpr ⟨List.mem_cons_of_mem _ (List.mem_append_left _ (List.mem_append_left _ (List.mem_append_left _ (List.mem_append_left _ (List.mem_of_getElem? (i := 3) rfl))))), (fun _ h => absurd h List.not_mem_nil)⟩⟩⟩⟩, List.forall_mem_cons.mpr ⟨List.mem_cons_of_mem _ (List.mem_append_left _ (List.mem_append_left _ (List.mem_append_left _ (List.mem_append_right _ (List.mem_append_right _ (List.mem_append_right _ (List.mem_append_right _ (List.mem_of_getElem? (i := 0) rfl)))))))), List.forall_mem_append.mpr ⟨List.forall_mem_append.mpr ⟨List.forall_mem_append.mpr ⟨List.forall_mem_cons.mpr ⟨List.mem_cons_of_mem _ (List.mem_append_left _ (List.mem_append_left _ (List.mem_append_left _ (List.mem_append_right _ (List.mem_append_left _ (List.mem_of_getElem? (i := 14) rfl)))))), List.forall_mem_cons.mpr ⟨List.mem_cons_of_mem _ (List.mem_append_left _ (List.mem_append_left _ (List.mem_append_left _ (List.mem_append_right _ (List.mem_append_left _ (List.mem_of_getElem? (i := 15) rfl)))))), List.forall_mem_cons.mpr ⟨List.mem_cons_of_mem _ (List.mem_append_left _ (List.mem_append_left _ (List.mem_append_left _ (List.mem_append_right _ (List.mem_append_right _ (List.mem_append_left _ (List.mem_of_getElem? (i := 0) rfl))))))), List.forall_mem_cons.mpr ⟨List.mem_cons_of_mem _ (List.mem_append_left _ (List.mem_append_left _ (List.mem_append_left _ (List.mem_append_left _ (List.mem_of_getElem? (i := 3) rfl))))), List.forall_mem_cons.mpr ⟨List.mem_cons_of_mem _ (List.mem_append_left _ (List.mem_append_left _ (List.mem_append_left _ (List.mem_append_right _ (List.mem_append_right _ (List.mem_append_left _ (List.mem_of_getElem? (i := 1) rfl))))))), List.forall_mem_cons.mpr ⟨List.mem_cons_of_mem _ (List.mem_append_left _ (List.mem_append_left _ (List.mem_append_left _ (List.mem_append_left _ (List.mem_of_getElem? (i := 7) rfl))))), List.forall_mem_cons.mpr ⟨List.mem_cons_of_mem _ (List.mem_append_left _ (List.mem_append_left _ (List.mem_append_left _ (List.mem_append_right _ (List.mem_append_right _ (List.mem_append_left _ (List.mem_of_getElem? (i := 2) rfl))))))), List.forall_mem_cons.mpr ⟨List.mem_cons_of_mem _ (List.mem_append_left _ (List.mem_append_left _ (List.mem_append_left _ (List.mem_append_left _ (List.mem_of_getElem? (i := 9) rfl))))), List.forall_mem_cons.mpr ⟨List.mem_cons_of_mem _ (List.mem_append_left _ (List.mem_append_left _ (List.mem_append_left _ (List.mem_append_left _ (List.mem_of_getElem? (i := 10) rfl))))), List.forall_mem_cons.mpr ⟨List.mem_cons_of_mem _ (List.mem_append_left _ (List.mem_append_left _ (List.mem_append_left _ (List.mem_append_left _ (List.mem_of_getElem? (i := 11) rfl))))), List.forall_mem_cons.mpr ⟨List.mem_cons_of_mem _ (List.mem_append_left _ (List.mem_append_left _ (List.mem_append_left _ (List.mem_append_left _ (List.mem_of_getElem? (i := 12) rfl))))), List.forall_mem_cons.mpr ⟨List.mem_cons_of_mem _ (List.mem_append_left _ (List.mem_append_left _ (List.mem_append_left _ (List.mem_append_left _ (List.mem_of_getElem? (i := 13) rfl))))), List.forall_mem_cons.mpr ⟨List.mem_cons_of_mem _ (List.mem_append_left _ (List.mem_append_left _ (List.mem_append_left _ (List.mem_append_left _ (List.mem_of_getElem? (i := 14) rfl))))), List.forall_mem_cons.mpr ⟨List.mem_cons_of_mem _ (List.mem_append_left _ (List.mem_append_left _ (List.mem_append_left _ (List.mem_append_right _ (List.mem_append_left _ (List.mem_of_getElem? (i := 3) rfl)))))), List.forall_mem_cons.mpr ⟨List.mem_cons_of_mem _ (List.mem_append_left _ (List.mem_append_left _ (List.mem_append_left _ (List.mem_append_right _ (List.mem_append_right _ (List.mem_append_right _ (List.mem_append_right _ (List.mem_of_getElem? (i := 1) rfl)))))))), List.forall_mem_cons.mpr ⟨List.mem_cons_of_mem _ (List.mem_append_left _ (List.mem_append_left _ (List.mem_append_left _ (List.mem_append_right _ (List.mem_append_right _ (List.mem_append_right _ (List.mem_append_right _ (List.mem_of_getElem? (i := 2) rfl)))))))), (fun _ h => absurd h List.not_mem_nil)⟩⟩⟩⟩⟩⟩⟩⟩⟩⟩⟩⟩⟩⟩⟩⟩, List.forall_mem_cons.mpr ⟨List.mem_cons_of_mem _ (List.mem_append_left _ (List.mem_append_left _ (List.mem_append_left _ (List.mem_append_right _ (List.mem_append_right _ (List.mem_append_right _ (List.mem_append_right _ (List.mem_of_getElem? (i := 3) rfl)))))))), List.forall_mem_cons.mpr ⟨List.mem_cons_of_mem _ (List.mem_append_left _ (List.mem_append_left _ (List.mem_append_left _ (List.mem_append_right _ (List.mem_append_left _ (List.mem_of_getElem? (i := 7) rfl)))))), List.forall_mem_cons.mpr ⟨List.mem_cons_of_mem _ (List.mem_append_left _ (List.mem_append_left _ (List.mem_append_left _ (List.mem_append_right _ (List.mem_append_right _ (List.mem_append_right _ (List.mem_append_right _ (List.mem_of_getElem? (i := 4) rfl)))))))), List.forall_mem_cons.mpr ⟨List.mem_cons_of_mem _ (List.mem_append_left _ (List.mem_append_left _ (List.mem_append_left _ (List.mem_append_right _ (List.mem_append_left _ (List.mem_of_getElem? (i := 13) rfl)))))), List.forall_mem_cons.mpr ⟨List.mem_cons_of_mem _ (List.mem_append_left _ (List.mem_append_left _ (List.mem_append_left _ (List.mem_append_left _ (List.mem_of_getElem? (i := 5) rfl))))), (fun _ h => absurd h List.not_mem_nil)⟩⟩⟩⟩⟩⟩, (fun _ h => List.mem_cons_of_mem _ (List.mem_append_left _ (List.mem_append_left _ (List.mem_append_right _ h))))⟩, (fun _ h => List.mem_cons_of_mem _ (List.mem_append_left _ (List.mem_append_right _ h)))⟩⟩⟩) (by decide +kernel)
set_option maxHeartbeats 4000000 in
set_option maxRecDepth 100000 in
theorem x_X1_isClashing (l : Launch) (D : va_G) (sz : Nat) (sk : Value) (a : Nat → Nat) (t : Nat → ClassId) (i : Nat → Int32) (q : Int64) (c : Nat → Nat → Int32) (d : Nat → Nat → Int64) (f : Int32) (w1 : Int32) (w2 : Int32) (w3 : Int32) (hI : xInv i c) (hw1 : 0 ≤ w1.toInt ∧ w1.toInt ≤ 29) (hfl : f.toInt = 6 → 0 ≤ w2.toInt ∧ w2.toInt ≤ 5) (hex : f.toInt = 5 → 0 ≤ w3.toInt ∧ w3.toInt ≤ 9) (hky : f.toInt = 7 → 0 ≤ w2.toInt ∧ w2.toInt ≤ 29) (hw2 : 0 ≤ w2.toInt ∧ w2.toInt ≤ 29) : Met l yX1_isClashing wm_X1_isClashing ({ frames := 3, cells := 0, slots := 0, locals := 69 }) (va_Pc [.ref (a 112), .int f, .int w1, .int w2, .int w3] (yB (a 186) D sz (xwT sk a t i q c d) (xtT t))) (va_Qi (fun (r : Int32) (u : MS) => (0 ≤ r.toInt ∧ r.toInt ≤ 1) ∧ xInv u.1 u.2.2.1 ∧ (∀ k, k ∉ ([123] : List Nat) → u.1 k = i k) ∧ (∀ k, k ∉ ([122] : List Nat) → u.2.2.1 k = c k)) (oC D (va_A (xwT sk a t i q c d) sz) (fun u : MS => xwT sk a t u.1 u.2.1 u.2.2.1 u.2.2.2) (fun _ => [])) (va_A (xwT sk a t i q c d) sz)) 0 0 (va_A (xwT sk a t i q c d) sz) := by
  refine Met.ofW (cc := cX1_isClashing) (maxL := 5) (ret := (some .boolean)) (by decide +kernel) rfl ?_
  intro p e s m args below meth cd s₁ B hml hv
  obtain ⟨rfl, ⟨hsz, hP, hK, hD0⟩, hN, hZ, hBW⟩ := hv
  have hx := B.exec
  have hb := B.bytes
  have hr := B.returns
  have hts := atoms_spec (ws := wm_X1_isClashing) B.pre
  have hown : s.vm.findClass RX1 = some m.cls := findClass_of_methodNamed B.named
  have hlocks := B.notSynchronized
  subst hsz
  have hD := hD0.self (sz := s.heap.size)
  have hZ := xZ_A hZ hP hBW
  generalize hAe : va_A (xwT sk a t i q c d) s.heap.size = A at hD hZ ⊢
  have hA : ∀ q : Nat, s.heap.size ≤ q → A q := fun q h => by rw [← hAe]; exact Or.inr h
  have hS : va_S A s.heap s.heap [] := va_S.rf
  have hfi : ∀ k, k ∉ ([] : List Nat) → i k = i k := fun _ _ => rfl
  have hfc : ∀ k, k ∉ ([] : List Nat) → c k = c k := fun _ _ => rfl
  have hl := lv_entry ([.ref (a 112), .int f, .int w1, .int w2, .int w3]) (n := 5) (Nat.le_of_ble_eq_true rfl)
  rw [lg_entry_eq]
  generalize (lg_sl ([.ref (a 112), .int f, .int w1, .int w2, .int w3]) ++ List.replicate (5 - (lg_sl ([.ref (a 112), .int f, .int w1, .int w2, .int w3])).length) Slot.unset).toArray = ls at hl ⊢
  have hl : lv_has ls 5 [(0, .ref (a 112)), (1, .int f), (2, .int w1), (3, .int w2), (4, .int w3)] := hl
  refine lv_aload_n hx hb dX1_isClashing_0 rfl (lv_at hl 0 rfl) ?_
  refine lv_aload_n hx hb dX1_isClashing_1 rfl (lv_at hl 0 rfl) ?_
  refine lv_iload_n hx hb dX1_isClashing_2 rfl (lv_at hl 1 rfl) ?_
  refine lv_iload_n hx hb dX1_isClashing_3 rfl (lv_at hl 2 rfl) ?_
  refine lv_iload_n hx hb dX1_isClashing_4 rfl (lv_at hl 3 rfl) ?_
  refine lv_iload hx hb dX1_isClashing_5 (lv_at hl 4 rfl) ?_
  refine ro_calli (va_runV (As := [.int f, .int w1, .int w2, .int w3]) (rest := [.ref (a 112)]) ⟨hx, hb, hml, hown, hts⟩ (x_X1_standingFor l D s.heap.size .null a t i q c d f w1 w2 w3 hI (show 0 ≤ w1.toInt ∧ w1.toInt ≤ 29 from by omega) (show f.toInt = 6 → 0 ≤ w2.toInt ∧ w2.toInt ≤ 5 from by omega) (show f.toInt = 5 → 0 ≤ w3.toInt ∧ w3.toInt ≤ 9 from by omega) (show f.toInt = 7 → 0 ≤ w2.toInt ∧ w2.toInt ≤ 29 from by omega)) (cwV 4 hts gm_X1_isClashing_X1_standingFor_88 rfl rfl rfl (by decide +kernel) ⟨Nat.le_of_ble_eq_true rfl, Nat.le_of_ble_eq_true rfl⟩) (yA_V hN (xZ_k hZ hS hA) (xkT_B hK) (xuT_B (sk := sk) hP) (ci := 1) (q0 := 6) rfl rfl) rfl rfl hl.1 rfl (lv_room (Nat.le_of_ble_eq_true rfl)) dX1_isClashing_7 ⟨Nat.le_of_ble_eq_true rfl, Nat.le_of_ble_eq_true rfl⟩) hS hA hP (fun r1 u1 H locs hw1 hP hS => ?_)
  have hw1 : (r1.toInt = -9 ∨ (0 ≤ r1.toInt ∧ r1.toInt ≤ 199)) := hw1
  refine al_calli (va_runV (As := [.int r1]) (rest := []) ⟨hx, hb, hml, hown, hts⟩ (x_X1_addClash l D H.size sk a t i q c d r1 hI (show r1.toInt = -9 ∨ (0 ≤ r1.toInt ∧ r1.toInt ≤ 199) from by omega)) (cwV 1 hts gm_X1_isClashing_X1_addClash_121 rfl rfl rfl (by decide +kernel) ⟨Nat.le_of_ble_eq_true rfl, Nat.le_of_ble_eq_true rfl⟩) (yB_V hN (xZ_k hZ hS hA) (xZ_n hZ hD) hK hP hD (ci := 1) (q0 := 8) rfl rfl) rfl rfl hl.1 rfl (lv_room (Nat.le_of_ble_eq_true rfl)) dX1_isClashing_10 ⟨Nat.le_of_ble_eq_true rfl, Nat.le_of_ble_eq_true rfl⟩) hS hA hP hD (fun r2 u2 H locs hw2 hP hD hS => ?_)
  obtain ⟨i2, q2, c2, d2⟩ := u2
  have hw2 : (0 ≤ r2.toInt ∧ r2.toInt ≤ 1) ∧ xInv i2 c2 ∧ (∀ k, k ∉ ([123] : List Nat) → i2 k = i k) ∧ (∀ k, k ∉ ([122] : List Nat) → c2 k = c k) := hw2
  obtain ⟨hw2, hI, hei2, hec2⟩ := hw2
  have hfi : ∀ k, k ∉ ([123] : List Nat) → i2 k = i k := fr_z hfi hei2 (by decide +kernel) (by decide +kernel)
  have hfc : ∀ k, k ∉ ([122] : List Nat) → c2 k = c k := fr_z hfc hec2 (by decide +kernel) (by decide +kernel)
  refine lv_if_eq (tgt := 18) hx hb dX1_isClashing_13 (by decide +kernel) (fun c3 => ?_) (fun c3 => ?_)
  · have f3 := (ti_eq (a := r2.toInt) (b := 0) rfl (by decide +kernel)).mp c3
    refine lv_iload_n hx hb dX1_isClashing_18 rfl (lv_at hl 1 rfl) ?_
    rcases (show (f.toInt < 5 ∨ 7 < f.toInt) ∨ f.toInt = 5 ∨ f.toInt = 6 ∨ f.toInt = 7 by omega) with f4 | f4 | f4 | f4
    · refine lv_tableOut (tgt := 88) hx hb dX1_isClashing_19 f4 (by decide +kernel) ?_
      refine lv_aload_n hx hb dX1_isClashing_88 rfl (lv_at hl 0 rfl) ?_
      refine lv_iload_n hx hb dX1_isClashing_89 rfl (lv_at hl 1 rfl) ?_
      refine lv_iload_n hx hb dX1_isClashing_90 rfl (lv_at hl 2 rfl) ?_
      refine lv_iload_n hx hb dX1_isClashing_91 rfl (lv_at hl 3 rfl) ?_
      refine al_calli (va_runV (As := [.int f, .int w1, .int w2]) (rest := []) ⟨hx, hb, hml, hown, hts⟩ (x_X1_isPlaceClashing l D H.size sk a t i2 q2 c2 d2 f w1 w2 hI (show 0 ≤ w1.toInt ∧ w1.toInt ≤ 29 from by omega) (show 0 ≤ w2.toInt ∧ w2.toInt ≤ 29 from by omega)) (cwV 3 hts gm_X1_isClashing_X1_isPlaceClashing_131 rfl rfl rfl (by decide +kernel) ⟨Nat.le_of_ble_eq_true rfl, Nat.le_of_ble_eq_true rfl⟩) (yB_V hN (xZ_k hZ hS hA) (xZ_n hZ hD) hK hP hD (ci := 1) (q0 := 8) rfl rfl) rfl rfl hl.1 rfl (lv_room (Nat.le_of_ble_eq_true rfl)) dX1_isClashing_92 ⟨Nat.le_of_ble_eq_true rfl, Nat.le_of_ble_eq_true rfl⟩) hS hA hP hD (fun r5 u5 H locs hw5 hP hD hS => ?_)
      obtain ⟨i5, q5, c5, d5⟩ := u5
      have hw5 : (0 ≤ r5.toInt ∧ r5.toInt ≤ 1) ∧ xInv i5 c5 ∧ (∀ k, k ∉ ([123] : List Nat) → i5 k = i2 k) ∧ (∀ k, k ∉ ([122] : List Nat) → c5 k = c2 k) := hw5
      obtain ⟨hw5, hI, hei5, hec5⟩ := hw5
      have hfi : ∀ k, k ∉ ([123] : List Nat) → i5 k = i k := fr_z hfi hei5 (by decide +kernel) (by decide +kernel)
      have hfc : ∀ k, k ∉ ([122] : List Nat) → c5 k = c k := fr_z hfc hec5 (by decide +kernel) (by decide +kernel)
      exact rw_zret (i5, q5, c5, d5) hx hb hr hlocks hS (hK.sub (tys' := []) [] rfl) hP hD (nb_n (show 0 ≤ r5.toInt ∧ r5.toInt ≤ 1 from by omega)) dX1_isClashing_95 ⟨(show 0 ≤ r5.toInt ∧ r5.toInt ≤ 1 from by omega), hI, fr_w hfi (by decide +kernel), fr_w hfc (by decide +kernel)⟩
    · refine lv_tableIn (off := 25) (tgt := 44) hx hb dX1_isClashing_19 (by omega) (by omega) (by rw [f4]; rfl) (by decide +kernel) ?_
      refine lv_aload_n hx hb dX1_isClashing_44 rfl (lv_at hl 0 rfl) ?_
      refine xgT_B_world hx hb hts (fun _ h => List.mem_cons_of_mem _ (List.mem_append_left _ (List.mem_append_left _ (List.mem_append_right _ h)))) hown hK hP (hts (.fieldLink RX1 43 "TalePlay$Book" "world" "LTalePlay$World;") (List.mem_cons_of_mem _ (List.mem_append_left _ (List.mem_append_left _ (List.mem_append_left _ (List.mem_append_right _ (List.mem_append_right _ (List.mem_append_left _ (List.mem_of_getElem? (i := 8) rfl))))))))) dX1_isClashing_45 ?_
      refine lv_iload_n hx hb dX1_isClashing_48 rfl (lv_at hl 3 rfl) ?_
      have rb111_i2 : 0 ≤ (i2 111).toInt ∧ (i2 111).toInt ≤ 30 := hI.1 111
      have re111_i2 : (i2 111).toInt = (i 111).toInt := congrArg Int32.toInt (hfi 111 (by decide +kernel))
      refine ro_calli (va_runV (As := [.int w2]) (rest := []) ⟨hx, hb, hml, hown, hts⟩ (x_X10_sortOf l D H.size .null a t i2 q2 c2 d2 w2 hI ) (cwV 1 hts gm_X1_isClashing_X10_sortOf_72 rfl rfl rfl (by decide +kernel) ⟨Nat.le_of_ble_eq_true rfl, Nat.le_of_ble_eq_true rfl⟩) (yA_V hN (xZ_k hZ hS hA) (xkT_W hK) (xuT_W (sk := sk) hP) (ci := 10) (q0 := 0) rfl rfl) rfl rfl hl.1 rfl (lv_room (Nat.le_of_ble_eq_true rfl)) dX1_isClashing_49 ⟨Nat.le_of_ble_eq_true rfl, Nat.le_of_ble_eq_true rfl⟩) hS hA hP (fun r6 u6 H locs hw6 hP hS => ?_)
      have hw6 : ((r6.toInt = -9 ∧ ¬ (0 ≤ w2.toInt ∧ w2.toInt < (i2 111).toInt)) ∨ (0 ≤ r6.toInt ∧ r6.toInt ≤ 5 ∧ 0 ≤ w2.toInt ∧ w2.toInt < (i2 111).toInt)) := hw6
      refine lv_iconst (v := 2) hx hb dX1_isClashing_52 (by decide +kernel) ?_
      refine lv_icmp_ne (tgt := 69) hx hb dX1_isClashing_53 (by decide +kernel) (fun c7 => ?_) (fun c7 => ?_)
      · have f7 := mt (ti_eq (a := r6.toInt) (b := 2) rfl (by decide +kernel)).mpr c7
        refine lv_iconst (v := 0) hx hb dX1_isClashing_69 (by decide +kernel) ?_
        refine lv_goto (tgt := 95) hx hb dX1_isClashing_70 (by decide +kernel) ?_
        exact rw_zret (i2, q2, c2, d2) hx hb hr hlocks hS (hK.sub (tys' := []) [] rfl) hP hD rfl dX1_isClashing_95 ⟨(show 0 ≤ (0 : Int32).toInt ∧ (0 : Int32).toInt ≤ 1 from by decide +kernel), hI, fr_w hfi (by decide +kernel), fr_w hfc (by decide +kernel)⟩
      · have f7 := (ti_eq (a := r6.toInt) (b := 2) rfl (by decide +kernel)).mp c7
        refine lv_aload_n hx hb dX1_isClashing_56 rfl (lv_at hl 0 rfl) ?_
        refine lv_iload_n hx hb dX1_isClashing_57 rfl (lv_at hl 2 rfl) ?_
        refine lv_iload_n hx hb dX1_isClashing_58 rfl (lv_at hl 3 rfl) ?_
        refine al_calli (va_runV (As := [.int w1, .int w2]) (rest := []) ⟨hx, hb, hml, hown, hts⟩ (x_X1_isDoorClashing l D H.size sk a t i2 q2 c2 d2 w1 w2 hI (show 0 ≤ w1.toInt ∧ w1.toInt ≤ 29 from by omega) (show 0 ≤ w2.toInt ∧ w2.toInt ≤ 29 from by omega)) (cwV 2 hts gm_X1_isClashing_X1_isDoorClashing_124 rfl rfl rfl (by decide +kernel) ⟨Nat.le_of_ble_eq_true rfl, Nat.le_of_ble_eq_true rfl⟩) (yB_V hN (xZ_k hZ hS hA) (xZ_n hZ hD) hK hP hD (ci := 1) (q0 := 8) rfl rfl) rfl rfl hl.1 rfl (lv_room (Nat.le_of_ble_eq_true rfl)) dX1_isClashing_59 ⟨Nat.le_of_ble_eq_true rfl, Nat.le_of_ble_eq_true rfl⟩) hS hA hP hD (fun r8 u8 H locs hw8 hP hD hS => ?_)
        obtain ⟨i8, q8, c8, d8⟩ := u8
        have hw8 : (0 ≤ r8.toInt ∧ r8.toInt ≤ 1) ∧ xInv i8 c8 ∧ (∀ k, k ∉ ([123] : List Nat) → i8 k = i2 k) ∧ (∀ k, k ∉ ([122] : List Nat) → c8 k = c2 k) := hw8
        obtain ⟨hw8, hI, hei8, hec8⟩ := hw8
        have hfi : ∀ k, k ∉ ([123] : List Nat) → i8 k = i k := fr_z hfi hei8 (by decide +kernel) (by decide +kernel)
        have hfc : ∀ k, k ∉ ([122] : List Nat) → c8 k = c k := fr_z hfc hec8 (by decide +kernel) (by decide +kernel)
        refine lv_if_eq (tgt := 69) hx hb dX1_isClashing_62 (by decide +kernel) (fun c9 => ?_) (fun c9 => ?_)
        · have f9 := (ti_eq (a := r8.toInt) (b := 0) rfl (by decide +kernel)).mp c9
          refine lv_iconst (v := 0) hx hb dX1_isClashing_69 (by decide +kernel) ?_
          refine lv_goto (tgt := 95) hx hb dX1_isClashing_70 (by decide +kernel) ?_
          exact rw_zret (i8, q8, c8, d8) hx hb hr hlocks hS (hK.sub (tys' := []) [] rfl) hP hD rfl dX1_isClashing_95 ⟨(show 0 ≤ (0 : Int32).toInt ∧ (0 : Int32).toInt ≤ 1 from by decide +kernel), hI, fr_w hfi (by decide +kernel), fr_w hfc (by decide +kernel)⟩
        · have f9 := mt (ti_eq (a := r8.toInt) (b := 0) rfl (by decide +kernel)).mpr c9
          refine lv_iconst (v := 1) hx hb dX1_isClashing_65 (by decide +kernel) ?_
          refine lv_goto (tgt := 95) hx hb dX1_isClashing_66 (by decide +kernel) ?_
          exact rw_zret (i8, q8, c8, d8) hx hb hr hlocks hS (hK.sub (tys' := []) [] rfl) hP hD rfl dX1_isClashing_95 ⟨(show 0 ≤ (1 : Int32).toInt ∧ (1 : Int32).toInt ≤ 1 from by decide +kernel), hI, fr_w hfi (by decide +kernel), fr_w hfc (by decide +kernel)⟩
    · refine lv_tableIn (off := 54) (tgt := 73) hx hb dX1_isClashing_19 (by omega) (by omega) (by rw [f4]; rfl) (by decide +kernel) ?_
      refine lv_aload_n hx hb dX1_isClashing_73 rfl (lv_at hl 0 rfl) ?_
      refine lv_iload_n hx hb dX1_isClashing_74 rfl (lv_at hl 2 rfl) ?_
      refine lv_iload_n hx hb dX1_isClashing_75 rfl (lv_at hl 3 rfl) ?_
      refine lv_iload hx hb dX1_isClashing_76 (lv_at hl 4 rfl) ?_
      refine al_calli (va_runV (As := [.int w1, .int w2, .int w3]) (rest := []) ⟨hx, hb, hml, hown, hts⟩ (x_X1_isFlagClashing l D H.size sk a t i2 q2 c2 d2 w1 w2 w3 hI (show 0 ≤ w1.toInt ∧ w1.toInt ≤ 29 from by omega) (show 0 ≤ w2.toInt ∧ w2.toInt ≤ 5 from by omega)) (cwV 3 hts gm_X1_isClashing_X1_isFlagClashing_127 rfl rfl rfl (by decide +kernel) ⟨Nat.le_of_ble_eq_true rfl, Nat.le_of_ble_eq_true rfl⟩) (yB_V hN (xZ_k hZ hS hA) (xZ_n hZ hD) hK hP hD (ci := 1) (q0 := 8) rfl rfl) rfl rfl hl.1 rfl (lv_room (Nat.le_of_ble_eq_true rfl)) dX1_isClashing_78 ⟨Nat.le_of_ble_eq_true rfl, Nat.le_of_ble_eq_true rfl⟩) hS hA hP hD (fun r10 u10 H locs hw10 hP hD hS => ?_)
      obtain ⟨i10, q10, c10, d10⟩ := u10
      have hw10 : (0 ≤ r10.toInt ∧ r10.toInt ≤ 1) ∧ xInv i10 c10 ∧ (∀ k, k ∉ ([123] : List Nat) → i10 k = i2 k) ∧ (∀ k, k ∉ ([122] : List Nat) → c10 k = c2 k) := hw10
      obtain ⟨hw10, hI, hei10, hec10⟩ := hw10
      have hfi : ∀ k, k ∉ ([123] : List Nat) → i10 k = i k := fr_z hfi hei10 (by decide +kernel) (by decide +kernel)
      have hfc : ∀ k, k ∉ ([122] : List Nat) → c10 k = c k := fr_z hfc hec10 (by decide +kernel) (by decide +kernel)
      refine lv_goto (tgt := 95) hx hb dX1_isClashing_81 (by decide +kernel) ?_
      exact rw_zret (i10, q10, c10, d10) hx hb hr hlocks hS (hK.sub (tys' := []) [] rfl) hP hD (nb_n (show 0 ≤ r10.toInt ∧ r10.toInt ≤ 1 from by omega)) dX1_isClashing_95 ⟨(show 0 ≤ r10.toInt ∧ r10.toInt ≤ 1 from by omega), hI, fr_w hfi (by decide +kernel), fr_w hfc (by decide +kernel)⟩
    · refine lv_tableIn (off := 65) (tgt := 84) hx hb dX1_isClashing_19 (by omega) (by omega) (by rw [f4]; rfl) (by decide +kernel) ?_
      refine lv_iconst (v := 0) hx hb dX1_isClashing_84 (by decide +kernel) ?_
      refine lv_goto (tgt := 95) hx hb dX1_isClashing_85 (by decide +kernel) ?_
      exact rw_zret (i2, q2, c2, d2) hx hb hr hlocks hS (hK.sub (tys' := []) [] rfl) hP hD rfl dX1_isClashing_95 ⟨(show 0 ≤ (0 : Int32).toInt ∧ (0 : Int32).toInt ≤ 1 from by decide +kernel), hI, fr_w hfi (by decide +kernel), fr_w hfc (by decide +kernel)⟩
  · have f3 := mt (ti_eq (a := r2.toInt) (b := 0) rfl (by decide +kernel)).mpr c3
    refine lv_iconst (v := 1) hx hb dX1_isClashing_16 (by decide +kernel) ?_
    exact rw_zret (i2, q2, c2, d2) hx hb hr hlocks hS (hK.sub (tys' := []) [] rfl) hP hD rfl dX1_isClashing_17 ⟨(show 0 ≤ (1 : Int32).toInt ∧ (1 : Int32).toInt ≤ 1 from by decide +kernel), hI, fr_w hfi (by decide +kernel), fr_w hfc (by decide +kernel)⟩

def wm_X4_lay : List Cond := .code yX4_lay cX4_lay 5 none :: (([.fieldLink RX4 9 "TalePlay$Lines" "sorts" "[I", .fieldLink RX4 15 "TalePlay$Lines" "lengths" "[I", .fieldLink RX4 18 "TalePlay$Lines" "items" "[J"] : List Cond) ++ wsX40)
set_option maxHeartbeats 4000000 in
set_option maxRecDepth 100000 in
theorem x_X4_lay (l : Launch) (D : va_G) (sz : Nat) (sk : Value) (a : Nat → Nat) (t : Nat → ClassId) (i : Nat → Int32) (q : Int64) (c : Nat → Nat → Int32) (d : Nat → Nat → Int64) (w : Int32) (s1 : Int32) (n1 : Int32) (hI : xInv i c) (hw : 0 ≤ w.toInt ∧ w.toInt ≤ 29) (hs1 : 0 ≤ s1.toInt ∧ s1.toInt ≤ 3) (hn1 : 0 ≤ n1.toInt ∧ n1.toInt ≤ 12) : Met l yX4_lay wm_X4_lay ({ frames := 0, cells := 0, slots := 0, locals := 0 }) (va_Pc [.ref (a 157), .int w, .int s1, .int n1] (yB (a 186) D sz (xwT sk a t i q c d) (xtT t))) (va_Qv (fun (u : MS) => True ∧ xInv u.1 u.2.2.1 ∧ (∀ k, k ∉ ([] : List Nat) → u.1 k = i k) ∧ (∀ k, k ∉ ([158, 159] : List Nat) → u.2.2.1 k = c k)) (oC D (va_A (xwT sk a t i q c d) sz) (fun u : MS => xwT sk a t u.1 u.2.1 u.2.2.1 u.2.2.2) (fun _ => [])) (va_A (xwT sk a t i q c d) sz)) 0 0 (va_A (xwT sk a t i q c d) sz) := by
  refine Met.ofW (cc := cX4_lay) (maxL := 5) (ret := none) (by decide +kernel) rfl ?_
  intro p e s m args below meth cd s₁ B hml hv
  obtain ⟨rfl, ⟨hsz, hP, hK, hD0⟩, hN, hZ, hBW⟩ := hv
  have hx := B.exec
  have hb := B.bytes
  have hr := B.returns
  have hts := atoms_spec (ws := wm_X4_lay) B.pre
  have hown : s.vm.findClass RX4 = some m.cls := findClass_of_methodNamed B.named
  have hlocks := B.notSynchronized
  subst hsz
  have hD := hD0.self (sz := s.heap.size)
  have hZ := xZ_A hZ hP hBW
  generalize hAe : va_A (xwT sk a t i q c d) s.heap.size = A at hD hZ ⊢
  have hA : ∀ q : Nat, s.heap.size ≤ q → A q := fun q h => by rw [← hAe]; exact Or.inr h
  have hS : va_S A s.heap s.heap [] := va_S.rf
  have hfi : ∀ k, k ∉ ([] : List Nat) → i k = i k := fun _ _ => rfl
  have hfc : ∀ k, k ∉ ([] : List Nat) → c k = c k := fun _ _ => rfl
  have hl := lv_entry ([.ref (a 157), .int w, .int s1, .int n1]) (n := 5) (Nat.le_of_ble_eq_true rfl)
  rw [lg_entry_eq]
  generalize (lg_sl ([.ref (a 157), .int w, .int s1, .int n1]) ++ List.replicate (5 - (lg_sl ([.ref (a 157), .int w, .int s1, .int n1])).length) Slot.unset).toArray = ls at hl ⊢
  have hl : lv_has ls 5 [(0, .ref (a 157)), (1, .int w), (2, .int s1), (3, .int n1)] := hl
  refine lv_aload_n hx hb dX4_lay_0 rfl (lv_at hl 0 rfl) ?_
  refine xgT_L_sorts hx hb hts (fun _ h => List.mem_cons_of_mem _ (List.mem_append_right _ h)) hown hK hP (hts (.fieldLink RX4 9 "TalePlay$Lines" "sorts" "[I") (List.mem_cons_of_mem _ (List.mem_append_left _ (List.mem_of_getElem? (i := 0) rfl)))) dX4_lay_1 ?_
  refine lv_iload_n hx hb dX4_lay_4 rfl (lv_at hl 1 rfl) ?_
  refine lv_iload_n hx hb dX4_lay_5 rfl (lv_at hl 2 rfl) ?_
  refine xsT_158 hx hb hK hP hD hS (vp_in_iff.mpr (by have h9 : w.toInt = w.toInt := rfl; omega)) dX4_lay_6 (fun H locs hP hD hS => ?_)
  have hI := xInv_c hI (k := 158) (j := (w : Int32).toNatClampNeg) (x := s1) (show (s1 : Int32).toInt = -9 ∨ (0 ≤ (s1 : Int32).toInt ∧ (s1 : Int32).toInt ≤ 3) from by omega)
  have hfc : ∀ k, k ∉ ([158] : List Nat) → (updA c 158 (w : Int32).toNatClampNeg s1) k = c k := fr_cz hfc (by decide +kernel) (by decide +kernel)
  refine lv_aload_n hx hb dX4_lay_7 rfl (lv_at hl 0 rfl) ?_
  refine xgT_L_lengths hx hb hts (fun _ h => List.mem_cons_of_mem _ (List.mem_append_right _ h)) hown hK hP (hts (.fieldLink RX4 15 "TalePlay$Lines" "lengths" "[I") (List.mem_cons_of_mem _ (List.mem_append_left _ (List.mem_of_getElem? (i := 1) rfl)))) dX4_lay_8 ?_
  refine lv_iload_n hx hb dX4_lay_11 rfl (lv_at hl 1 rfl) ?_
  refine lv_iload_n hx hb dX4_lay_12 rfl (lv_at hl 3 rfl) ?_
  refine xsT_159 hx hb hK hP hD hS (vp_in_iff.mpr (by have h9 : w.toInt = w.toInt := rfl; omega)) dX4_lay_13 (fun H locs hP hD hS => ?_)
  have hI := xInv_c hI (k := 159) (j := (w : Int32).toNatClampNeg) (x := n1) (show 0 ≤ (n1 : Int32).toInt ∧ (n1 : Int32).toInt ≤ 12 from by omega)
  have hfc : ∀ k, k ∉ ([158, 159] : List Nat) → (updA (updA c 158 (w : Int32).toNatClampNeg s1) 159 (w : Int32).toNatClampNeg n1) k = c k := fr_cz hfc (by decide +kernel) (by decide +kernel)
  refine lv_iconst (v := 0) hx hb dX4_lay_14 (by decide +kernel) ?_
  refine lv_istore (lv' := [(4, .int 0), (0, .ref (a 157)), (1, .int w), (2, .int s1), (3, .int n1)]) hx hb dX4_lay_15 hl (by decide +kernel) rfl (fun ls hl => ?_)
  have lp1 : ∀ (fu : Nat) (i1 : Nat → Int32) (q1 : Int64) (c1 : Nat → Nat → Int32) (d1 : Nat → Nat → Int64) (y1_4 : Int32), xInv i1 c1 → (∀ k, k ∉ ([] : List Nat) → i1 k = i k) → (∀ k, k ∉ ([158, 159] : List Nat) → c1 k = c k) → (0 ≤ y1_4.toInt ∧ y1_4.toInt ≤ 12) → (12 - y1_4.toInt).toNat < fu → ∀ (H : Heap) (locs : List Loc) (ls : Array Slot), va_P D vwCl (xwT sk a t i1 q1 c1 d1) H → va_D A (xwT sk a t i1 q1 c1 d1) → va_S A s.heap H locs → lv_has ls 5 [(4, .int y1_4), (0, .ref (a 157)), (1, .int w), (2, .int s1), (3, .int n1)] → W p l e (headSpec wm_X4_lay ({ frames := 0, cells := 0, slots := 0, locals := 0 })).room s m ([.ref (a 157), .int w, .int s1, .int n1] : List Value).toArray below meth cd H locs 0 0 (MQ below (va_Qv (fun (u : MS) => True ∧ xInv u.1 u.2.2.1 ∧ (∀ k, k ∉ ([] : List Nat) → u.1 k = i k) ∧ (∀ k, k ∉ ([158, 159] : List Nat) → u.2.2.1 k = c k)) (oC D A (fun u : MS => xwT sk a t u.1 u.2.1 u.2.2.1 u.2.2.2) (fun _ => [])) A) ([.ref (a 157), .int w, .int s1, .int n1] : List Value).toArray s 0 0 A) (F0 m 17 ls []) := by
    intro fu
    induction fu with
    | zero => intro i1 q1 c1 d1 y1_4 hI hfi hfc hy1_4 hm; exact absurd hm (Nat.not_lt_zero _)
    | succ fu ih =>
      intro i1 q1 c1 d1 y1_4 hI hfi hfc hy1_4 hm H locs ls hP hD hS hl
      have ih1 := ih
      refine lv_iload hx hb dX4_lay_17 (lv_at hl 0 rfl) ?_
      refine lv_bipush (v := 12) hx hb dX4_lay_19 (by decide +kernel) ?_
      refine lv_icmp_ge (tgt := 43) hx hb dX4_lay_21 (by decide +kernel) (fun c2 => ?_) (fun c2 => ?_)
      · have f2 := (ti_le (a := 12) (b := y1_4.toInt) (by decide +kernel) rfl).mp c2
        exact rw_vret (i1, q1, c1, d1) hx hb hr hlocks hS (hK.sub (tys' := []) [] rfl) hP hD dX4_lay_43 ⟨trivial, hI, fr_w hfi (by decide +kernel), fr_w hfc (by decide +kernel)⟩
      · have f2 := mt (ti_le (a := 12) (b := y1_4.toInt) (by decide +kernel) rfl).mpr c2
        refine lv_aload_n hx hb dX4_lay_24 rfl (lv_at hl 1 rfl) ?_
        refine xgT_L_items hx hb hts (fun _ h => List.mem_cons_of_mem _ (List.mem_append_right _ h)) hown hK hP (hts (.fieldLink RX4 18 "TalePlay$Lines" "items" "[J") (List.mem_cons_of_mem _ (List.mem_append_left _ (List.mem_of_getElem? (i := 2) rfl)))) dX4_lay_25 ?_
        refine lv_iload_n hx hb dX4_lay_28 rfl (lv_at hl 2 rfl) ?_
        refine lv_bipush (v := 12) hx hb dX4_lay_29 (by decide +kernel) ?_
        refine lv_imul hx hb dX4_lay_31 ?_
        refine lv_topi (fun x3 ex3 => ?_)
        have tx3 := ti_mul (a := w.toInt) (b := 12) ex3 rfl (by decide +kernel) (by omega) (by omega)
        refine lv_iload hx hb dX4_lay_32 (lv_at hl 0 rfl) ?_
        refine lv_iadd hx hb dX4_lay_34 ?_
        refine lv_topi (fun x4 ex4 => ?_)
        have tx4 := ti_add (a := (w.toInt * 12)) (b := y1_4.toInt) ex4 tx3 rfl (by omega) (by omega)
        refine lv_lconst (v := 0) hx hb dX4_lay_35 (by decide +kernel) ?_
        refine xsT_160 hx hb hK hP hD hS (vp_in_iff.mpr (by have h9 : x4.toInt = ((w.toInt * 12) + y1_4.toInt) := tx4; omega)) dX4_lay_36 (fun H locs hP hD hS => ?_)
        obtain ⟨x5, ex5⟩ : ∃ y : Int32, y = y1_4 + 1 := ⟨_, rfl⟩
        have tx5 := ti_add (a := y1_4.toInt) (b := 1) ex5 rfl (by decide +kernel) (by omega) (by omega)
        refine lv_iinc (v := x5) (lv' := [(4, .int x5), (0, .ref (a 157)), (1, .int w), (2, .int s1), (3, .int n1)]) hx hb dX4_lay_37 hl (k := 0) rfl (by rw [ex5]; rfl) (by decide +kernel) rfl (fun ls hl => ?_)
        refine lv_goto (tgt := 17) hx hb dX4_lay_40 (by decide +kernel) ?_
        exact ih1 i1 q1 c1 (updD d1 160 (x4 : Int32).toNatClampNeg 0) x5 hI (fr_w hfi (by decide +kernel)) (fr_w hfc (by decide +kernel)) (show 0 ≤ x5.toInt ∧ x5.toInt ≤ 12 from by have h50 : x5.toInt = (y1_4.toInt + 1) := tx5; omega) (by have h50 : x5.toInt = (y1_4.toInt + 1) := tx5; omega) _ _ _ hP hD hS (lv_sub hl [0, 1, 2, 3, 4] rfl)
  exact lp1 _ i q (updA (updA c 158 (w : Int32).toNatClampNeg s1) 159 (w : Int32).toNatClampNeg n1) d (0 : Int32) hI (fr_w hfi (by decide +kernel)) (fr_w hfc (by decide +kernel)) (show 0 ≤ (0 : Int32).toInt ∧ (0 : Int32).toInt ≤ 12 from by decide +kernel) (Nat.lt_succ_self _) _ _ _ hP hD hS (lv_sub hl [0, 1, 2, 3, 4] rfl)

def wm_X4_isOther : List Cond := .code yX4_isOther cX4_isOther 3 (some .boolean) :: (([.fieldLink RX4 9 "TalePlay$Lines" "sorts" "[I"] : List Cond) ++ wsX40)
set_option maxHeartbeats 4000000 in
set_option maxRecDepth 100000 in
theorem x_X4_isOther (l : Launch) (D : va_G) (sz : Nat) (sk : Value) (a : Nat → Nat) (t : Nat → ClassId) (i : Nat → Int32) (q : Int64) (c : Nat → Nat → Int32) (d : Nat → Nat → Int64) (w : Int32) (s1 : Int32) (hI : xInv i c) (hw : 0 ≤ w.toInt ∧ w.toInt ≤ 29) : Met l yX4_isOther wm_X4_isOther ({ frames := 0, cells := 0, slots := 0, locals := 0 }) (va_Pc [.ref (a 157), .int w, .int s1] (yA (a 186) D sz (xwT sk a t i q c d) (xtT t))) (va_Qi (fun (r : Int32) (_ : Unit) => (0 ≤ r.toInt ∧ r.toInt ≤ 1)) oA (ro sz)) 0 0 (ro sz) := by
  refine Met.ofW (cc := cX4_isOther) (maxL := 3) (ret := (some .boolean)) (by decide +kernel) rfl ?_
  intro p e s m args below meth cd s₁ B hml hv
  obtain ⟨rfl, ⟨hsz, hP, hK⟩, hN, hZ⟩ := hv
  have hx := B.exec
  have hb := B.bytes
  have hr := B.returns
  have hts := atoms_spec (ws := wm_X4_isOther) B.pre
  have hown : s.vm.findClass RX4 = some m.cls := findClass_of_methodNamed B.named
  have hlocks := B.notSynchronized
  subst hsz
  have hA : ∀ q : Nat, s.heap.size ≤ q → ro s.heap.size q := fun _ h => h
  have hS : va_S (ro s.heap.size) s.heap s.heap [] := va_S.rf
  have hl := lv_entry ([.ref (a 157), .int w, .int s1]) (n := 3) (Nat.le_of_ble_eq_true rfl)
  rw [lg_entry_eq]
  generalize (lg_sl ([.ref (a 157), .int w, .int s1]) ++ List.replicate (3 - (lg_sl ([.ref (a 157), .int w, .int s1])).length) Slot.unset).toArray = ls at hl ⊢
  have hl : lv_has ls 3 [(0, .ref (a 157)), (1, .int w), (2, .int s1)] := hl
  refine lv_aload_n hx hb dX4_isOther_0 rfl (lv_at hl 0 rfl) ?_
  refine xgT_L_sorts hx hb hts (fun _ h => List.mem_cons_of_mem _ (List.mem_append_right _ h)) hown hK hP (hts (.fieldLink RX4 9 "TalePlay$Lines" "sorts" "[I") (List.mem_cons_of_mem _ (List.mem_append_left _ (List.mem_of_getElem? (i := 0) rfl)))) dX4_isOther_1 ?_
  refine lv_iload_n hx hb dX4_isOther_4 rfl (lv_at hl 1 rfl) ?_
  refine xlT_158 hx hb hK hP (vp_in_iff.mpr (by have h9 : w.toInt = w.toInt := rfl; omega)) dX4_isOther_5 (fun x1 ex1 => ?_)
  have rx1 : x1.toInt = -9 ∨ (0 ≤ x1.toInt ∧ x1.toInt ≤ 3) := by rw [ex1]; exact hI.2 158 _
  refine lv_bipush (v := (-9)) hx hb dX4_isOther_6 (by decide +kernel) ?_
  refine lv_icmp_eq (tgt := 25) hx hb dX4_isOther_8 (by decide +kernel) (fun c2 => ?_) (fun c2 => ?_)
  · have f2 := (ti_eq (a := x1.toInt) (b := (-9)) rfl (by decide +kernel)).mp c2
    refine lv_iconst (v := 0) hx hb dX4_isOther_25 (by decide +kernel) ?_
    exact ro_zret hx hb hr hlocks hS rfl dX4_isOther_26 (show 0 ≤ (0 : Int32).toInt ∧ (0 : Int32).toInt ≤ 1 from by decide +kernel)
  · have f2 := mt (ti_eq (a := x1.toInt) (b := (-9)) rfl (by decide +kernel)).mpr c2
    refine lv_aload_n hx hb dX4_isOther_11 rfl (lv_at hl 0 rfl) ?_
    refine xgT_L_sorts hx hb hts (fun _ h => List.mem_cons_of_mem _ (List.mem_append_right _ h)) hown hK hP (hts (.fieldLink RX4 9 "TalePlay$Lines" "sorts" "[I") (List.mem_cons_of_mem _ (List.mem_append_left _ (List.mem_of_getElem? (i := 0) rfl)))) dX4_isOther_12 ?_
    refine lv_iload_n hx hb dX4_isOther_15 rfl (lv_at hl 1 rfl) ?_
    refine xlT_158 hx hb hK hP (vp_in_iff.mpr (by have h9 : w.toInt = w.toInt := rfl; omega)) dX4_isOther_16 (fun x3 ex3 => ?_)
    have rx3 : x3.toInt = -9 ∨ (0 ≤ x3.toInt ∧ x3.toInt ≤ 3) := by rw [ex3]; exact hI.2 158 _
    refine lv_iload_n hx hb dX4_isOther_17 rfl (lv_at hl 2 rfl) ?_
    refine lv_icmp_eq (tgt := 25) hx hb dX4_isOther_18 (by decide +kernel) (fun c4 => ?_) (fun c4 => ?_)
    · have f4 := (ti_eq (a := x3.toInt) (b := s1.toInt) rfl rfl).mp c4
      refine lv_iconst (v := 0) hx hb dX4_isOther_25 (by decide +kernel) ?_
      exact ro_zret hx hb hr hlocks hS rfl dX4_isOther_26 (show 0 ≤ (0 : Int32).toInt ∧ (0 : Int32).toInt ≤ 1 from by decide +kernel)
    · have f4 := mt (ti_eq (a := x3.toInt) (b := s1.toInt) rfl rfl).mpr c4
      refine lv_iconst (v := 1) hx hb dX4_isOther_21 (by decide +kernel) ?_
      refine lv_goto (tgt := 26) hx hb dX4_isOther_22 (by decide +kernel) ?_
      exact ro_zret hx hb hr hlocks hS rfl dX4_isOther_26 (show 0 ≤ (1 : Int32).toInt ∧ (1 : Int32).toInt ≤ 1 from by decide +kernel)

def wm_X4_hasRun : List Cond := .code yX4_hasRun cX4_hasRun 4 (some .boolean) :: (([.fieldLink RX4 15 "TalePlay$Lines" "lengths" "[I"] : List Cond) ++ wsX40)
set_option maxHeartbeats 4000000 in
set_option maxRecDepth 100000 in
theorem x_X4_hasRun (l : Launch) (D : va_G) (sz : Nat) (sk : Value) (a : Nat → Nat) (t : Nat → ClassId) (i : Nat → Int32) (q : Int64) (c : Nat → Nat → Int32) (d : Nat → Nat → Int64) (w : Int32) (f : Int32) (n1 : Int32) (hI : xInv i c) (hw : 0 ≤ w.toInt ∧ w.toInt ≤ 29) : Met l yX4_hasRun wm_X4_hasRun ({ frames := 0, cells := 0, slots := 0, locals := 0 }) (va_Pc [.ref (a 157), .int w, .int f, .int n1] (yA (a 186) D sz (xwT sk a t i q c d) (xtT t))) (va_Qi (fun (r : Int32) (_ : Unit) => ((0 ≤ r.toInt ∧ r.toInt ≤ 1) ∧ (Im (r.toInt = 1) (0 ≤ f.toInt ∧ 0 ≤ n1.toInt ∧ f.toInt + n1.toInt ≤ 12)))) oA (ro sz)) 0 0 (ro sz) := by
  refine Met.ofW (cc := cX4_hasRun) (maxL := 4) (ret := (some .boolean)) (by decide +kernel) rfl ?_
  intro p e s m args below meth cd s₁ B hml hv
  obtain ⟨rfl, ⟨hsz, hP, hK⟩, hN, hZ⟩ := hv
  have hx := B.exec
  have hb := B.bytes
  have hr := B.returns
  have hts := atoms_spec (ws := wm_X4_hasRun) B.pre
  have hown : s.vm.findClass RX4 = some m.cls := findClass_of_methodNamed B.named
  have hlocks := B.notSynchronized
  subst hsz
  have hA : ∀ q : Nat, s.heap.size ≤ q → ro s.heap.size q := fun _ h => h
  have hS : va_S (ro s.heap.size) s.heap s.heap [] := va_S.rf
  have hl := lv_entry ([.ref (a 157), .int w, .int f, .int n1]) (n := 4) (Nat.le_of_ble_eq_true rfl)
  rw [lg_entry_eq]
  generalize (lg_sl ([.ref (a 157), .int w, .int f, .int n1]) ++ List.replicate (4 - (lg_sl ([.ref (a 157), .int w, .int f, .int n1])).length) Slot.unset).toArray = ls at hl ⊢
  have hl : lv_has ls 4 [(0, .ref (a 157)), (1, .int w), (2, .int f), (3, .int n1)] := hl
  refine lv_iload_n hx hb dX4_hasRun_0 rfl (lv_at hl 2 rfl) ?_
  refine lv_if_lt (tgt := 34) hx hb dX4_hasRun_1 (by decide +kernel) (fun c1 => ?_) (fun c1 => ?_)
  · have f1 := (ti_lt (a := f.toInt) (b := 0) rfl (by decide +kernel)).mp c1
    refine lv_iconst (v := 0) hx hb dX4_hasRun_34 (by decide +kernel) ?_
    exact ro_zret hx hb hr hlocks hS rfl dX4_hasRun_35 ⟨(show 0 ≤ (0 : Int32).toInt ∧ (0 : Int32).toInt ≤ 1 from by decide +kernel), (show Im ((0 : Int32).toInt = 1) (0 ≤ f.toInt ∧ 0 ≤ n1.toInt ∧ f.toInt + n1.toInt ≤ 12) from fun h9 => absurd h9 (by decide +kernel))⟩
  · have f1 := mt (ti_lt (a := f.toInt) (b := 0) rfl (by decide +kernel)).mpr c1
    refine lv_iload_n hx hb dX4_hasRun_4 rfl (lv_at hl 3 rfl) ?_
    refine lv_if_lt (tgt := 34) hx hb dX4_hasRun_5 (by decide +kernel) (fun c2 => ?_) (fun c2 => ?_)
    · have f2 := (ti_lt (a := n1.toInt) (b := 0) rfl (by decide +kernel)).mp c2
      refine lv_iconst (v := 0) hx hb dX4_hasRun_34 (by decide +kernel) ?_
      exact ro_zret hx hb hr hlocks hS rfl dX4_hasRun_35 ⟨(show 0 ≤ (0 : Int32).toInt ∧ (0 : Int32).toInt ≤ 1 from by decide +kernel), (show Im ((0 : Int32).toInt = 1) (0 ≤ f.toInt ∧ 0 ≤ n1.toInt ∧ f.toInt + n1.toInt ≤ 12) from fun h9 => absurd h9 (by decide +kernel))⟩
    · have f2 := mt (ti_lt (a := n1.toInt) (b := 0) rfl (by decide +kernel)).mpr c2
      refine lv_iload_n hx hb dX4_hasRun_8 rfl (lv_at hl 2 rfl) ?_
      refine lv_aload_n hx hb dX4_hasRun_9 rfl (lv_at hl 0 rfl) ?_
      refine xgT_L_lengths hx hb hts (fun _ h => List.mem_cons_of_mem _ (List.mem_append_right _ h)) hown hK hP (hts (.fieldLink RX4 15 "TalePlay$Lines" "lengths" "[I") (List.mem_cons_of_mem _ (List.mem_append_left _ (List.mem_of_getElem? (i := 0) rfl)))) dX4_hasRun_10 ?_
      refine lv_iload_n hx hb dX4_hasRun_13 rfl (lv_at hl 1 rfl) ?_
      refine xlT_159 hx hb hK hP (vp_in_iff.mpr (by have h9 : w.toInt = w.toInt := rfl; omega)) dX4_hasRun_14 (fun x3 ex3 => ?_)
      have rx3 : 0 ≤ x3.toInt ∧ x3.toInt ≤ 12 := by rw [ex3]; exact hI.2 159 _
      refine lv_icmp_gt (tgt := 34) hx hb dX4_hasRun_15 (by decide +kernel) (fun c4 => ?_) (fun c4 => ?_)
      · have f4 := (ti_lt (a := x3.toInt) (b := f.toInt) rfl rfl).mp c4
        refine lv_iconst (v := 0) hx hb dX4_hasRun_34 (by decide +kernel) ?_
        exact ro_zret hx hb hr hlocks hS rfl dX4_hasRun_35 ⟨(show 0 ≤ (0 : Int32).toInt ∧ (0 : Int32).toInt ≤ 1 from by decide +kernel), (show Im ((0 : Int32).toInt = 1) (0 ≤ f.toInt ∧ 0 ≤ n1.toInt ∧ f.toInt + n1.toInt ≤ 12) from fun h9 => absurd h9 (by decide +kernel))⟩
      · have f4 := mt (ti_lt (a := x3.toInt) (b := f.toInt) rfl rfl).mpr c4
        refine lv_iload_n hx hb dX4_hasRun_18 rfl (lv_at hl 3 rfl) ?_
        refine lv_aload_n hx hb dX4_hasRun_19 rfl (lv_at hl 0 rfl) ?_
        refine xgT_L_lengths hx hb hts (fun _ h => List.mem_cons_of_mem _ (List.mem_append_right _ h)) hown hK hP (hts (.fieldLink RX4 15 "TalePlay$Lines" "lengths" "[I") (List.mem_cons_of_mem _ (List.mem_append_left _ (List.mem_of_getElem? (i := 0) rfl)))) dX4_hasRun_20 ?_
        refine lv_iload_n hx hb dX4_hasRun_23 rfl (lv_at hl 1 rfl) ?_
        refine xlT_159 hx hb hK hP (vp_in_iff.mpr (by have h9 : w.toInt = w.toInt := rfl; omega)) dX4_hasRun_24 (fun x5 ex5 => ?_)
        have rx5 : 0 ≤ x5.toInt ∧ x5.toInt ≤ 12 := by rw [ex5]; exact hI.2 159 _
        refine lv_iload_n hx hb dX4_hasRun_25 rfl (lv_at hl 2 rfl) ?_
        refine lv_isub hx hb dX4_hasRun_26 ?_
        refine lv_topi (fun x6 ex6 => ?_)
        have tx6 := ti_sub (a := x5.toInt) (b := f.toInt) ex6 rfl rfl (by omega) (by omega)
        refine lv_icmp_gt (tgt := 34) hx hb dX4_hasRun_27 (by decide +kernel) (fun c7 => ?_) (fun c7 => ?_)
        · have f7 := (ti_lt (a := (x5.toInt - f.toInt)) (b := n1.toInt) tx6 rfl).mp c7
          refine lv_iconst (v := 0) hx hb dX4_hasRun_34 (by decide +kernel) ?_
          exact ro_zret hx hb hr hlocks hS rfl dX4_hasRun_35 ⟨(show 0 ≤ (0 : Int32).toInt ∧ (0 : Int32).toInt ≤ 1 from by decide +kernel), (show Im ((0 : Int32).toInt = 1) (0 ≤ f.toInt ∧ 0 ≤ n1.toInt ∧ f.toInt + n1.toInt ≤ 12) from fun h9 => absurd h9 (by decide +kernel))⟩
        · have f7 := mt (ti_lt (a := (x5.toInt - f.toInt)) (b := n1.toInt) tx6 rfl).mpr c7
          refine lv_iconst (v := 1) hx hb dX4_hasRun_30 (by decide +kernel) ?_
          refine lv_goto (tgt := 35) hx hb dX4_hasRun_31 (by decide +kernel) ?_
          exact ro_zret hx hb hr hlocks hS rfl dX4_hasRun_35 ⟨(show 0 ≤ (1 : Int32).toInt ∧ (1 : Int32).toInt ≤ 1 from by decide +kernel), (show Im ((1 : Int32).toInt = 1) (0 ≤ f.toInt ∧ 0 ≤ n1.toInt ∧ f.toInt + n1.toInt ≤ 12) from fun _ => by omega)⟩

def wm_X4_cutTo : List Cond := .code yX4_cutTo cX4_cutTo 4 (some .long) :: (([.methodLink RX4 28 yX4_floatBits, .static yX4_floatBits, .initialized RX4, .code yX4_floatBits cX4_floatBits 1 (some .int), .constant RX4 32 (2147483647), .constant RX4 33 (2139095040), .constant RX4 34 (2143289344)] : List Cond))
set_option maxRecDepth 20000 in
theorem gm_X4_cutTo_X4_floatBits_28 : GoodIn wm_X4_cutTo (va_wsS RX4 28 yX4_floatBits wm_X4_floatBits) := goodIn_w (List.forall_mem_append.mpr ⟨List.forall_mem_cons.mpr ⟨List.mem_cons_of_mem _ (List.mem_of_getElem? (i := 0) rfl), List.forall_mem_cons.mpr ⟨List.mem_cons_of_mem _ (List.mem_of_getElem? (i := 1) rfl), List.forall_mem_cons.mpr ⟨List.mem_cons_of_mem _ (List.mem_of_getElem? (i := 2) rfl), (fun _ h => absurd h List.not_mem_nil)⟩⟩⟩, List.forall_mem_cons.mpr ⟨List.mem_cons_of_mem _ (List.mem_of_getElem? (i := 3) rfl), List.forall_mem_cons.mpr ⟨List.mem_cons_of_mem _ (List.mem_of_getElem? (i := 4) rfl), List.forall_mem_cons.mpr ⟨List.mem_cons_of_mem _ (List.mem_of_getElem? (i := 5) rfl), List.forall_mem_cons.mpr ⟨List.mem_cons_of_mem _ (List.mem_of_getElem? (i := 6) rfl), (fun _ h => absurd h List.not_mem_nil)⟩⟩⟩⟩⟩) (by decide +kernel)
set_option maxHeartbeats 4000000 in
set_option maxRecDepth 100000 in
theorem x_X4_cutTo (l : Launch) (D : va_G) (sz : Nat) (sk : Value) (a : Nat → Nat) (t : Nat → ClassId) (i : Nat → Int32) (q : Int64) (c : Nat → Nat → Int32) (d : Nat → Nat → Int64) (s1 : Int32) (v1 : Int64) (hI : xInv i c) : Met l yX4_cutTo wm_X4_cutTo ({ frames := 1, cells := 0, slots := 0, locals := 20 }) (va_Pc [.ref (a 157), .int s1, .long v1] (yA (a 186) D sz (xwT sk a t i q c d) (xtT t))) (va_Ql (fun (r : Int64) (_ : Unit) => True) oA (ro sz)) 0 0 (ro sz) := by
  refine Met.ofW (cc := cX4_cutTo) (maxL := 4) (ret := (some .long)) (by decide +kernel) rfl ?_
  intro p e s m args below meth cd s₁ B hml hv
  obtain ⟨rfl, ⟨hsz, hP, hK⟩, hN, hZ⟩ := hv
  have hx := B.exec
  have hb := B.bytes
  have hr := B.returns
  have hts := atoms_spec (ws := wm_X4_cutTo) B.pre
  have hown : s.vm.findClass RX4 = some m.cls := findClass_of_methodNamed B.named
  have hlocks := B.notSynchronized
  subst hsz
  have hA : ∀ q : Nat, s.heap.size ≤ q → ro s.heap.size q := fun _ h => h
  have hS : va_S (ro s.heap.size) s.heap s.heap [] := va_S.rf
  have hl := lv_entry ([.ref (a 157), .int s1, .long v1]) (n := 4) (Nat.le_of_ble_eq_true rfl)
  rw [lg_entry_eq]
  generalize (lg_sl ([.ref (a 157), .int s1, .long v1]) ++ List.replicate (4 - (lg_sl ([.ref (a 157), .int s1, .long v1])).length) Slot.unset).toArray = ls at hl ⊢
  have hl : lv_has ls 4 [(0, .ref (a 157)), (1, .int s1), (2, .long v1)] := hl
  refine lv_iload_n hx hb dX4_cutTo_0 rfl (lv_at hl 1 rfl) ?_
  rcases (show (s1.toInt < 0 ∨ 2 < s1.toInt) ∨ s1.toInt = 0 ∨ s1.toInt = 1 ∨ s1.toInt = 2 by omega) with f1 | f1 | f1 | f1
  · refine lv_tableOut (tgt := 50) hx hb dX4_cutTo_1 f1 (by decide +kernel) ?_
    refine lv_lload_n hx hb dX4_cutTo_50 rfl (lv_at hl 2 rfl) ?_
    exact ro_lret hx hb hr hlocks hS dX4_cutTo_51 trivial
  · refine lv_tableIn (off := 27) (tgt := 28) hx hb dX4_cutTo_1 (by omega) (by omega) (by rw [f1]; rfl) (by decide +kernel) ?_
    refine lv_lload_n hx hb dX4_cutTo_28 rfl (lv_at hl 2 rfl) ?_
    refine lv_l2i (v := v1.toInt32) hx hb dX4_cutTo_29 rfl ?_
    refine lv_topi (fun x2 ex2 => ?_)
    refine lv_i2b (v := x2.toInt8.toInt32) hx hb dX4_cutTo_30 rfl ?_
    refine lv_topi (fun x3 ex3 => ?_)
    refine lv_i2l (v := x3.toInt64) hx hb dX4_cutTo_31 rfl ?_
    refine lv_goto (tgt := 51) hx hb dX4_cutTo_32 (by decide +kernel) ?_
    exact ro_lret hx hb hr hlocks hS dX4_cutTo_51 trivial
  · refine lv_tableIn (off := 34) (tgt := 35) hx hb dX4_cutTo_1 (by omega) (by omega) (by rw [f1]; rfl) (by decide +kernel) ?_
    refine lv_lload_n hx hb dX4_cutTo_35 rfl (lv_at hl 2 rfl) ?_
    refine lv_l2i (v := v1.toInt32) hx hb dX4_cutTo_36 rfl ?_
    refine lv_topi (fun x4 ex4 => ?_)
    refine lv_i2l (v := x4.toInt64) hx hb dX4_cutTo_37 rfl ?_
    refine lv_goto (tgt := 51) hx hb dX4_cutTo_38 (by decide +kernel) ?_
    exact ro_lret hx hb hr hlocks hS dX4_cutTo_51 trivial
  · refine lv_tableIn (off := 40) (tgt := 41) hx hb dX4_cutTo_1 (by omega) (by omega) (by rw [f1]; rfl) (by decide +kernel) ?_
    refine lv_lload_n hx hb dX4_cutTo_41 rfl (lv_at hl 2 rfl) ?_
    refine lv_l2i (v := v1.toInt32) hx hb dX4_cutTo_42 rfl ?_
    refine lv_topi (fun x5 ex5 => ?_)
    have hPc := hP.sub (ws' := []) [] rfl
    have hKc := hK.sub (tys' := []) [] rfl
    refine ro_calli (va_runS (As := [.int x5]) (rest := []) ⟨hx, hb, hml, hown, hts⟩ (c_X4_floatBits l D s.heap.size x5) (va_cwS 1 hts gm_X4_cutTo_X4_floatBits_28 rfl rfl rfl (by decide +kernel) ⟨Nat.le_of_ble_eq_true rfl, Nat.le_of_ble_eq_true rfl⟩) (pA_S hKc hPc) rfl rfl hl.1 rfl (lv_room (Nat.le_of_ble_eq_true rfl)) dX4_cutTo_43 ⟨Nat.le_of_ble_eq_true rfl, Nat.le_of_ble_eq_true rfl⟩) hS hA hP (fun r7 u7 H locs hw7 hP hS => ?_)
    refine lv_i2l (v := r7.toInt64) hx hb dX4_cutTo_46 rfl ?_
    refine lv_goto (tgt := 51) hx hb dX4_cutTo_47 (by decide +kernel) ?_
    exact ro_lret hx hb hr hlocks hS dX4_cutTo_51 trivial

