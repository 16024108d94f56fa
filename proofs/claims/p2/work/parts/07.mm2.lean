def wm_X12_areNumbers : List Cond := .code yX12_areNumbers cX12_areNumbers 5 (some .boolean) :: (([.methodLink RX12 180 yX12_isObject, .instanceMethod yX12_isObject, .selects RX12 yX12_isObject yX12_isObject, .initialized RX12, .code yX12_isObject cX12_isObject 2 (some .boolean), .fieldLink RX12 177 "TalePlayModel" "objects" "I", .methodLink RX12 166 yX12_in, .static yX12_in, .code yX12_in cX12_in 6 (some .boolean), .constantLong RX12 197 (9), .constantLong RX12 170 (5)] : List Cond) ++ wsX120)
set_option maxRecDepth 20000 in
theorem gm_X12_areNumbers_X12_isObject : GoodIn wm_X12_areNumbers (wsV RX12 180 RX12 yX12_isObject wm_X12_isObject) := goodIn_app (goodIn_of _ (by decide +kernel)) (goodIn_r _ [5, 6, 7, 8, 4, 9, 12, 13, 14, 15, 16, 17, 18, 19, 20, 21, 22, 23, 24, 25, 26, 27, 28, 29, 30, 31, 32, 33, 34, 35, 36, 37, 38, 39, 40, 41, 42, 43, 44, 45, 46, 47, 48, 49, 50, 51, 52, 53, 54, 55, 56, 57, 58, 59, 60, 61, 62, 63, 64, 65, 66, 67, 68, 69, 70, 71, 72, 73, 74, 75, 76, 77, 78, 79, 80] (by decide +kernel) (by decide +kernel))
set_option maxRecDepth 20000 in
theorem gm_X12_areNumbers_X12_in : GoodIn wm_X12_areNumbers (va_wsS RX12 166 yX12_in wm_X12_in) := goodIn_app (goodIn_of _ (by decide +kernel)) (goodIn_r _ [9] (by decide +kernel) (by decide +kernel))
set_option maxHeartbeats 4000000 in
set_option maxRecDepth 100000 in
theorem s_X12_areNumbers (l : Launch) (D : va_G) (sz : Nat) (o : Nat) (a : Nat → Nat) (t : Nat → ClassId) (i : Nat → Int32) (q : Int64) (c : Nat → Nat → Int32) (d : Nat → Nat → Int64) (f : Int32) (w1 : Int32) (w2 : Int32) (w3 : Int32) (hI : mInv i c) : Met l yX12_areNumbers wm_X12_areNumbers ({ frames := 2, cells := 0, slots := 0, locals := 46 }) (va_Pc [.ref o, .int f, .int w1, .int w2, .int w3] (pA D sz (mW o a t i q c d) (mT t))) (va_Qi (fun (r : Int32) (_ : Unit) => (0 ≤ r.toInt ∧ r.toInt ≤ 1)) oA (ro sz)) 0 0 (ro sz) := by
  refine Met.ofW (cc := cX12_areNumbers) (maxL := 5) (ret := (some .boolean)) (by decide) rfl ?_
  intro p e s m args below meth cd s₁ B hml hv
  obtain ⟨rfl, hsz, hP, hK⟩ := hv
  have hx := B.exec
  have hb := B.bytes
  have hr := B.returns
  have hts := atoms_spec (ws := wm_X12_areNumbers) B.pre
  have hown : s.vm.findClass RX12 = some m.cls := findClass_of_methodNamed B.named
  have hlocks := B.notSynchronized
  subst hsz
  have hA : ∀ q : Nat, s.heap.size ≤ q → ro s.heap.size q := fun _ h => h
  have hS : va_S (ro s.heap.size) s.heap s.heap [] := va_S.rf
  have hl := lv_entry ([.ref o, .int f, .int w1, .int w2, .int w3]) (n := 5) (Nat.le_of_ble_eq_true rfl)
  rw [lg_entry_eq]
  generalize (lg_sl ([.ref o, .int f, .int w1, .int w2, .int w3]) ++ List.replicate (5 - (lg_sl ([.ref o, .int f, .int w1, .int w2, .int w3])).length) Slot.unset).toArray = ls at hl ⊢
  have hl : lv_has ls 5 [(0, .ref o), (1, .int f), (2, .int w1), (3, .int w2), (4, .int w3)] := hl
  refine lv_iload_n hx hb dX12_areNumbers_0 rfl (lv_at hl 1 rfl) ?_
  refine lv_bipush (v := 6) hx hb dX12_areNumbers_1 (by decide) ?_
  refine lv_icmp_ne (tgt := 43) hx hb dX12_areNumbers_3 (by decide) (fun c1 => ?_) (fun c1 => ?_)
  · have f1 := mt (ti_eq (a := f.toInt) (b := 6) rfl (by decide)).mpr c1
    refine lv_aload_n hx hb dX12_areNumbers_43 rfl (lv_at hl 0 rfl) ?_
    refine lv_iload_n hx hb dX12_areNumbers_44 rfl (lv_at hl 2 rfl) ?_
    refine ro_calli (va_runV (As := [.int w1]) (rest := []) ⟨hx, hb, hml, hown, hts⟩ (s_X12_isObject l D s.heap.size o a t i q c d w1 hI ) (cwV 1 hts gm_X12_areNumbers_X12_isObject rfl rfl rfl (by decide +kernel) ⟨Nat.le_of_ble_eq_true rfl, Nat.le_of_ble_eq_true rfl⟩) (pA_V hK hP (ci := 12) (q0 := 0) rfl rfl) rfl rfl hl.1 rfl (lv_room (Nat.le_of_ble_eq_true rfl)) dX12_areNumbers_45 ⟨Nat.le_of_ble_eq_true rfl, Nat.le_of_ble_eq_true rfl⟩) hS hA hP (fun r2 u2 H locs hw2 hP hS => ?_)
    have hw2 : r2 = if (0 ≤ w1.toInt ∧ w1.toInt ≤ (i 5).toInt - 1) then 1 else 0 := hw2
    refine lv_if_eq (tgt := 81) hx hb dX12_areNumbers_48 (by decide) (fun c3 => ?_) (fun c3 => ?_)
    · have f3 := fl_f hw2 c3
      refine lv_iconst (v := 0) hx hb dX12_areNumbers_81 (by decide) ?_
      exact ro_zret hx hb hr hlocks hS rfl dX12_areNumbers_82 (show 0 ≤ (0 : Int32).toInt ∧ (0 : Int32).toInt ≤ 1 from by decide)
    · have f3 := fl_t hw2 c3
      refine lv_aload_n hx hb dX12_areNumbers_51 rfl (lv_at hl 0 rfl) ?_
      refine lv_iload_n hx hb dX12_areNumbers_52 rfl (lv_at hl 3 rfl) ?_
      refine ro_calli (va_runV (As := [.int w2]) (rest := []) ⟨hx, hb, hml, hown, hts⟩ (s_X12_isObject l D H.size o a t i q c d w2 hI ) (cwV 1 hts gm_X12_areNumbers_X12_isObject rfl rfl rfl (by decide +kernel) ⟨Nat.le_of_ble_eq_true rfl, Nat.le_of_ble_eq_true rfl⟩) (pA_V hK hP (ci := 12) (q0 := 0) rfl rfl) rfl rfl hl.1 rfl (lv_room (Nat.le_of_ble_eq_true rfl)) dX12_areNumbers_53 ⟨Nat.le_of_ble_eq_true rfl, Nat.le_of_ble_eq_true rfl⟩) hS hA hP (fun r4 u4 H locs hw4 hP hS => ?_)
      have hw4 : r4 = if (0 ≤ w2.toInt ∧ w2.toInt ≤ (i 5).toInt - 1) then 1 else 0 := hw4
      refine lv_if_eq (tgt := 81) hx hb dX12_areNumbers_56 (by decide) (fun c5 => ?_) (fun c5 => ?_)
      · have f5 := fl_f hw4 c5
        refine lv_iconst (v := 0) hx hb dX12_areNumbers_81 (by decide) ?_
        exact ro_zret hx hb hr hlocks hS rfl dX12_areNumbers_82 (show 0 ≤ (0 : Int32).toInt ∧ (0 : Int32).toInt ≤ 1 from by decide)
      · have f5 := fl_t hw4 c5
        refine lv_iload_n hx hb dX12_areNumbers_59 rfl (lv_at hl 1 rfl) ?_
        refine lv_iconst (v := 5) hx hb dX12_areNumbers_60 (by decide) ?_
        refine lv_icmp_ne (tgt := 77) hx hb dX12_areNumbers_61 (by decide) (fun c6 => ?_) (fun c6 => ?_)
        · have f6 := mt (ti_eq (a := f.toInt) (b := 5) rfl (by decide)).mpr c6
          refine lv_iconst (v := 1) hx hb dX12_areNumbers_77 (by decide) ?_
          refine lv_goto (tgt := 82) hx hb dX12_areNumbers_78 (by decide) ?_
          exact ro_zret hx hb hr hlocks hS rfl dX12_areNumbers_82 (show 0 ≤ (1 : Int32).toInt ∧ (1 : Int32).toInt ≤ 1 from by decide)
        · have f6 := (ti_eq (a := f.toInt) (b := 5) rfl (by decide)).mp c6
          refine lv_iload hx hb dX12_areNumbers_64 (lv_at hl 4 rfl) ?_
          refine lv_i2l (v := w3.toInt64) hx hb dX12_areNumbers_66 rfl ?_
          refine lv_lconst (v := 0) hx hb dX12_areNumbers_67 (by decide) ?_
          refine lv_ldc2 (v := 9) hx hb hown (hts (.constantLong RX12 197 (9)) (by decide +kernel)) dX12_areNumbers_68 ?_
          have hPc := hP.sub (ws' := []) [] rfl
          have hKc := hK.sub (tys' := []) [] rfl
          refine ro_calli (va_runS (As := [.long w3.toInt64, .long 0, .long 9]) (rest := []) ⟨hx, hb, hml, hown, hts⟩ (c_X12_in l D H.size w3.toInt64 0 9 w3.toInt 0 9 ((Int32.toInt_toInt64 w3).trans rfl) (by decide) (by decide)) (va_cwS 3 hts gm_X12_areNumbers_X12_in rfl rfl rfl (by decide +kernel) ⟨Nat.le_of_ble_eq_true rfl, Nat.le_of_ble_eq_true rfl⟩) (pA_S hKc hPc) rfl rfl hl.1 rfl (lv_room (Nat.le_of_ble_eq_true rfl)) dX12_areNumbers_71 ⟨Nat.le_of_ble_eq_true rfl, Nat.le_of_ble_eq_true rfl⟩) hS hA hP (fun r7 u7 H locs hw7 hP hS => ?_)
          have hw7 : r7 = if (0 ≤ w3.toInt ∧ w3.toInt ≤ 9) then 1 else 0 := hw7
          refine lv_if_eq (tgt := 81) hx hb dX12_areNumbers_74 (by decide) (fun c8 => ?_) (fun c8 => ?_)
          · have f8 := fl_f hw7 c8
            refine lv_iconst (v := 0) hx hb dX12_areNumbers_81 (by decide) ?_
            exact ro_zret hx hb hr hlocks hS rfl dX12_areNumbers_82 (show 0 ≤ (0 : Int32).toInt ∧ (0 : Int32).toInt ≤ 1 from by decide)
          · have f8 := fl_t hw7 c8
            refine lv_iconst (v := 1) hx hb dX12_areNumbers_77 (by decide) ?_
            refine lv_goto (tgt := 82) hx hb dX12_areNumbers_78 (by decide) ?_
            exact ro_zret hx hb hr hlocks hS rfl dX12_areNumbers_82 (show 0 ≤ (1 : Int32).toInt ∧ (1 : Int32).toInt ≤ 1 from by decide)
  · have f1 := (ti_eq (a := f.toInt) (b := 6) rfl (by decide)).mp c1
    refine lv_aload_n hx hb dX12_areNumbers_6 rfl (lv_at hl 0 rfl) ?_
    refine lv_iload_n hx hb dX12_areNumbers_7 rfl (lv_at hl 2 rfl) ?_
    refine ro_calli (va_runV (As := [.int w1]) (rest := []) ⟨hx, hb, hml, hown, hts⟩ (s_X12_isObject l D s.heap.size o a t i q c d w1 hI ) (cwV 1 hts gm_X12_areNumbers_X12_isObject rfl rfl rfl (by decide +kernel) ⟨Nat.le_of_ble_eq_true rfl, Nat.le_of_ble_eq_true rfl⟩) (pA_V hK hP (ci := 12) (q0 := 0) rfl rfl) rfl rfl hl.1 rfl (lv_room (Nat.le_of_ble_eq_true rfl)) dX12_areNumbers_8 ⟨Nat.le_of_ble_eq_true rfl, Nat.le_of_ble_eq_true rfl⟩) hS hA hP (fun r9 u9 H locs hw9 hP hS => ?_)
    have hw9 : r9 = if (0 ≤ w1.toInt ∧ w1.toInt ≤ (i 5).toInt - 1) then 1 else 0 := hw9
    refine lv_if_eq (tgt := 41) hx hb dX12_areNumbers_11 (by decide) (fun c10 => ?_) (fun c10 => ?_)
    · have f10 := fl_f hw9 c10
      refine lv_iconst (v := 0) hx hb dX12_areNumbers_41 (by decide) ?_
      exact ro_zret hx hb hr hlocks hS rfl dX12_areNumbers_42 (show 0 ≤ (0 : Int32).toInt ∧ (0 : Int32).toInt ≤ 1 from by decide)
    · have f10 := fl_t hw9 c10
      refine lv_iload_n hx hb dX12_areNumbers_14 rfl (lv_at hl 3 rfl) ?_
      refine lv_i2l (v := w2.toInt64) hx hb dX12_areNumbers_15 rfl ?_
      refine lv_lconst (v := 0) hx hb dX12_areNumbers_16 (by decide) ?_
      refine lv_ldc2 (v := 5) hx hb hown (hts (.constantLong RX12 170 (5)) (by decide +kernel)) dX12_areNumbers_17 ?_
      have hPc := hP.sub (ws' := []) [] rfl
      have hKc := hK.sub (tys' := []) [] rfl
      refine ro_calli (va_runS (As := [.long w2.toInt64, .long 0, .long 5]) (rest := []) ⟨hx, hb, hml, hown, hts⟩ (c_X12_in l D H.size w2.toInt64 0 5 w2.toInt 0 5 ((Int32.toInt_toInt64 w2).trans rfl) (by decide) (by decide)) (va_cwS 3 hts gm_X12_areNumbers_X12_in rfl rfl rfl (by decide +kernel) ⟨Nat.le_of_ble_eq_true rfl, Nat.le_of_ble_eq_true rfl⟩) (pA_S hKc hPc) rfl rfl hl.1 rfl (lv_room (Nat.le_of_ble_eq_true rfl)) dX12_areNumbers_20 ⟨Nat.le_of_ble_eq_true rfl, Nat.le_of_ble_eq_true rfl⟩) hS hA hP (fun r11 u11 H locs hw11 hP hS => ?_)
      have hw11 : r11 = if (0 ≤ w2.toInt ∧ w2.toInt ≤ 5) then 1 else 0 := hw11
      refine lv_if_eq (tgt := 41) hx hb dX12_areNumbers_23 (by decide) (fun c12 => ?_) (fun c12 => ?_)
      · have f12 := fl_f hw11 c12
        refine lv_iconst (v := 0) hx hb dX12_areNumbers_41 (by decide) ?_
        exact ro_zret hx hb hr hlocks hS rfl dX12_areNumbers_42 (show 0 ≤ (0 : Int32).toInt ∧ (0 : Int32).toInt ≤ 1 from by decide)
      · have f12 := fl_t hw11 c12
        refine lv_iload hx hb dX12_areNumbers_26 (lv_at hl 4 rfl) ?_
        refine lv_i2l (v := w3.toInt64) hx hb dX12_areNumbers_28 rfl ?_
        refine lv_lconst (v := 0) hx hb dX12_areNumbers_29 (by decide) ?_
        refine lv_lconst (v := 1) hx hb dX12_areNumbers_30 (by decide) ?_
        have hPc := hP.sub (ws' := []) [] rfl
        have hKc := hK.sub (tys' := []) [] rfl
        refine ro_calli (va_runS (As := [.long w3.toInt64, .long 0, .long 1]) (rest := []) ⟨hx, hb, hml, hown, hts⟩ (c_X12_in l D H.size w3.toInt64 0 1 w3.toInt 0 1 ((Int32.toInt_toInt64 w3).trans rfl) (by decide) (by decide)) (va_cwS 3 hts gm_X12_areNumbers_X12_in rfl rfl rfl (by decide +kernel) ⟨Nat.le_of_ble_eq_true rfl, Nat.le_of_ble_eq_true rfl⟩) (pA_S hKc hPc) rfl rfl hl.1 rfl (lv_room (Nat.le_of_ble_eq_true rfl)) dX12_areNumbers_31 ⟨Nat.le_of_ble_eq_true rfl, Nat.le_of_ble_eq_true rfl⟩) hS hA hP (fun r13 u13 H locs hw13 hP hS => ?_)
        have hw13 : r13 = if (0 ≤ w3.toInt ∧ w3.toInt ≤ 1) then 1 else 0 := hw13
        refine lv_if_eq (tgt := 41) hx hb dX12_areNumbers_34 (by decide) (fun c14 => ?_) (fun c14 => ?_)
        · have f14 := fl_f hw13 c14
          refine lv_iconst (v := 0) hx hb dX12_areNumbers_41 (by decide) ?_
          exact ro_zret hx hb hr hlocks hS rfl dX12_areNumbers_42 (show 0 ≤ (0 : Int32).toInt ∧ (0 : Int32).toInt ≤ 1 from by decide)
        · have f14 := fl_t hw13 c14
          refine lv_iconst (v := 1) hx hb dX12_areNumbers_37 (by decide) ?_
          refine lv_goto (tgt := 42) hx hb dX12_areNumbers_38 (by decide) ?_
          exact ro_zret hx hb hr hlocks hS rfl dX12_areNumbers_42 (show 0 ≤ (1 : Int32).toInt ∧ (1 : Int32).toInt ≤ 1 from by decide)

def wm_X12_fitsLeft : List Cond := .code yX12_fitsLeft cX12_fitsLeft 4 (some .boolean) :: (([.methodLink RX12 194 yX12_isGoods, .instanceMethod yX12_isGoods, .selects RX12 yX12_isGoods yX12_isGoods, .initialized RX12, .code yX12_isGoods cX12_isGoods 2 (some .boolean), .methodLink RX12 188 yX12_isMovable, .instanceMethod yX12_isMovable, .selects RX12 yX12_isMovable yX12_isMovable, .code yX12_isMovable cX12_isMovable 2 (some .boolean), .methodLink RX12 184 yX12_isOf, .instanceMethod yX12_isOf, .selects RX12 yX12_isOf yX12_isOf, .code yX12_isOf cX12_isOf 4 (some .boolean), .fieldLink RX12 19 "TalePlayModel" "kindOf" "[I", .fieldLink RX12 13 "TalePlayModel" "parentOf" "[I", .methodLink RX12 199 yX12_mayHave, .instanceMethod yX12_mayHave, .selects RX12 yX12_mayHave yX12_mayHave, .code yX12_mayHave cX12_mayHave 3 (some .boolean), .methodLink RX12 191 yX12_isShutter, .instanceMethod yX12_isShutter, .selects RX12 yX12_isShutter yX12_isShutter, .code yX12_isShutter cX12_isShutter 2 (some .boolean)] : List Cond) ++ wsX120)
set_option maxRecDepth 20000 in
theorem gm_X12_fitsLeft_X12_isGoods : GoodIn wm_X12_fitsLeft (wsV RX12 194 RX12 yX12_isGoods wm_X12_isGoods) := goodIn_app (goodIn_of _ (by decide +kernel)) (goodIn_r _ [5, 6, 7, 8, 4, 9, 10, 11, 12, 13, 14, 15, 24, 25, 26, 27, 28, 29, 30, 31, 32, 33, 34, 35, 36, 37, 38, 39, 40, 41, 42, 43, 44, 45, 46, 47, 48, 49, 50, 51, 52, 53, 54, 55, 56, 57, 58, 59, 60, 61, 62, 63, 64, 65, 66, 67, 68, 69, 70, 71, 72, 73, 74, 75, 76, 77, 78, 79, 80, 81, 82, 83, 84, 85, 86, 87, 88, 89, 90, 91, 92] (by decide +kernel) (by decide +kernel))
set_option maxRecDepth 20000 in
theorem gm_X12_fitsLeft_X12_isMovable : GoodIn wm_X12_fitsLeft (wsV RX12 188 RX12 yX12_isMovable wm_X12_isMovable) := goodIn_app (goodIn_of _ (by decide +kernel)) (goodIn_r _ [9, 10, 11, 12, 4, 13, 14, 15, 24, 25, 26, 27, 28, 29, 30, 31, 32, 33, 34, 35, 36, 37, 38, 39, 40, 41, 42, 43, 44, 45, 46, 47, 48, 49, 50, 51, 52, 53, 54, 55, 56, 57, 58, 59, 60, 61, 62, 63, 64, 65, 66, 67, 68, 69, 70, 71, 72, 73, 74, 75, 76, 77, 78, 79, 80, 81, 82, 83, 84, 85, 86, 87, 88, 89, 90, 91, 92] (by decide +kernel) (by decide +kernel))
set_option maxRecDepth 20000 in
theorem gm_X12_fitsLeft_X12_isOf : GoodIn wm_X12_fitsLeft (wsV RX12 184 RX12 yX12_isOf wm_X12_isOf) := goodIn_app (goodIn_of _ (by decide +kernel)) (goodIn_r _ [13, 14, 15, 24, 25, 26, 27, 28, 29, 30, 31, 32, 33, 34, 35, 36, 37, 38, 39, 40, 41, 42, 43, 44, 45, 46, 47, 48, 49, 50, 51, 52, 53, 54, 55, 56, 57, 58, 59, 60, 61, 62, 63, 64, 65, 66, 67, 68, 69, 70, 71, 72, 73, 74, 75, 76, 77, 78, 79, 80, 81, 82, 83, 84, 85, 86, 87, 88, 89, 90, 91, 92] (by decide +kernel) (by decide +kernel))
set_option maxRecDepth 20000 in
theorem gm_X12_fitsLeft_X12_mayHave : GoodIn wm_X12_fitsLeft (wsV RX12 199 RX12 yX12_mayHave wm_X12_mayHave) := goodIn_app (goodIn_of _ (by decide +kernel)) (goodIn_r _ [19, 10, 11, 12, 4, 13, 14, 15, 20, 21, 22, 23, 6, 7, 8, 9, 1, 2, 3, 5, 24, 25, 26, 27, 28, 29, 30, 31, 32, 33, 34, 35, 36, 37, 38, 39, 40, 41, 42, 43, 44, 45, 46, 47, 48, 49, 50, 51, 52, 53, 54, 55, 56, 57, 58, 59, 60, 61, 62, 63, 64, 65, 66, 67, 68, 69, 70, 71, 72, 73, 74, 75, 76, 77, 78, 79, 80, 81, 82, 83, 84, 85, 86, 87, 88, 89, 90, 91, 92] (by decide +kernel) (by decide +kernel))
set_option maxHeartbeats 4000000 in
set_option maxRecDepth 100000 in
theorem s_X12_fitsLeft (l : Launch) (D : va_G) (sz : Nat) (o : Nat) (a : Nat → Nat) (t : Nat → ClassId) (i : Nat → Int32) (q : Int64) (c : Nat → Nat → Int32) (d : Nat → Nat → Int64) (f : Int32) (w1 : Int32) (w2 : Int32) (hI : mInv i c) (hw1 : 0 ≤ w1.toInt ∧ w1.toInt ≤ 29) : Met l yX12_fitsLeft wm_X12_fitsLeft ({ frames := 4, cells := 0, slots := 0, locals := 87 }) (va_Pc [.ref o, .int f, .int w1, .int w2] (pA D sz (mW o a t i q c d) (mT t))) (va_Qi (fun (r : Int32) (_ : Unit) => (0 ≤ r.toInt ∧ r.toInt ≤ 1)) oA (ro sz)) 0 0 (ro sz) := by
  refine Met.ofW (cc := cX12_fitsLeft) (maxL := 4) (ret := (some .boolean)) (by decide) rfl ?_
  intro p e s m args below meth cd s₁ B hml hv
  obtain ⟨rfl, hsz, hP, hK⟩ := hv
  have hx := B.exec
  have hb := B.bytes
  have hr := B.returns
  have hts := atoms_spec (ws := wm_X12_fitsLeft) B.pre
  have hown : s.vm.findClass RX12 = some m.cls := findClass_of_methodNamed B.named
  have hlocks := B.notSynchronized
  subst hsz
  have hA : ∀ q : Nat, s.heap.size ≤ q → ro s.heap.size q := fun _ h => h
  have hS : va_S (ro s.heap.size) s.heap s.heap [] := va_S.rf
  have hl := lv_entry ([.ref o, .int f, .int w1, .int w2]) (n := 4) (Nat.le_of_ble_eq_true rfl)
  rw [lg_entry_eq]
  generalize (lg_sl ([.ref o, .int f, .int w1, .int w2]) ++ List.replicate (4 - (lg_sl ([.ref o, .int f, .int w1, .int w2])).length) Slot.unset).toArray = ls at hl ⊢
  have hl : lv_has ls 4 [(0, .ref o), (1, .int f), (2, .int w1), (3, .int w2)] := hl
  refine lv_iload_n hx hb dX12_fitsLeft_0 rfl (lv_at hl 1 rfl) ?_
  rcases (show (f.toInt < 0 ∨ 6 < f.toInt) ∨ f.toInt = 0 ∨ f.toInt = 1 ∨ f.toInt = 2 ∨ f.toInt = 3 ∨ f.toInt = 4 ∨ f.toInt = 5 ∨ f.toInt = 6 by omega) with f1 | f1 | f1 | f1 | f1 | f1 | f1 | f1
  · refine lv_tableOut (tgt := 64) hx hb dX12_fitsLeft_1 f1 (by decide) ?_
    refine lv_aload_n hx hb dX12_fitsLeft_64 rfl (lv_at hl 0 rfl) ?_
    refine lv_iload_n hx hb dX12_fitsLeft_65 rfl (lv_at hl 2 rfl) ?_
    refine ro_calli (va_runV (As := [.int w1]) (rest := []) ⟨hx, hb, hml, hown, hts⟩ (s_X12_isGoods l D s.heap.size o a t i q c d w1 hI (by omega)) (cwV 1 hts gm_X12_fitsLeft_X12_isGoods rfl rfl rfl (by decide +kernel) ⟨Nat.le_of_ble_eq_true rfl, Nat.le_of_ble_eq_true rfl⟩) (pA_V hK hP (ci := 12) (q0 := 0) rfl rfl) rfl rfl hl.1 rfl (lv_room (Nat.le_of_ble_eq_true rfl)) dX12_fitsLeft_66 ⟨Nat.le_of_ble_eq_true rfl, Nat.le_of_ble_eq_true rfl⟩) hS hA hP (fun r2 u2 H locs hw2 hP hS => ?_)
    have hw2 : 0 ≤ r2.toInt ∧ r2.toInt ≤ 1 := hw2
    exact ro_zret hx hb hr hlocks hS (nb_n (show 0 ≤ r2.toInt ∧ r2.toInt ≤ 1 from by omega)) dX12_fitsLeft_69 (show 0 ≤ r2.toInt ∧ r2.toInt ≤ 1 from by omega)
  · refine lv_tableIn (off := 43) (tgt := 44) hx hb dX12_fitsLeft_1 (by omega) (by omega) (by rw [f1]; rfl) (by decide) ?_
    refine lv_aload_n hx hb dX12_fitsLeft_44 rfl (lv_at hl 0 rfl) ?_
    refine lv_iload_n hx hb dX12_fitsLeft_45 rfl (lv_at hl 2 rfl) ?_
    refine ro_calli (va_runV (As := [.int w1]) (rest := []) ⟨hx, hb, hml, hown, hts⟩ (s_X12_isMovable l D s.heap.size o a t i q c d w1 hI (by omega)) (cwV 1 hts gm_X12_fitsLeft_X12_isMovable rfl rfl rfl (by decide +kernel) ⟨Nat.le_of_ble_eq_true rfl, Nat.le_of_ble_eq_true rfl⟩) (pA_V hK hP (ci := 12) (q0 := 0) rfl rfl) rfl rfl hl.1 rfl (lv_room (Nat.le_of_ble_eq_true rfl)) dX12_fitsLeft_46 ⟨Nat.le_of_ble_eq_true rfl, Nat.le_of_ble_eq_true rfl⟩) hS hA hP (fun r3 u3 H locs hw3 hP hS => ?_)
    have hw3 : 0 ≤ r3.toInt ∧ r3.toInt ≤ 1 := hw3
    exact ro_zret hx hb hr hlocks hS (nb_n (show 0 ≤ r3.toInt ∧ r3.toInt ≤ 1 from by omega)) dX12_fitsLeft_49 (show 0 ≤ r3.toInt ∧ r3.toInt ≤ 1 from by omega)
  · refine lv_tableIn (off := 43) (tgt := 44) hx hb dX12_fitsLeft_1 (by omega) (by omega) (by rw [f1]; rfl) (by decide) ?_
    refine lv_aload_n hx hb dX12_fitsLeft_44 rfl (lv_at hl 0 rfl) ?_
    refine lv_iload_n hx hb dX12_fitsLeft_45 rfl (lv_at hl 2 rfl) ?_
    refine ro_calli (va_runV (As := [.int w1]) (rest := []) ⟨hx, hb, hml, hown, hts⟩ (s_X12_isMovable l D s.heap.size o a t i q c d w1 hI (by omega)) (cwV 1 hts gm_X12_fitsLeft_X12_isMovable rfl rfl rfl (by decide +kernel) ⟨Nat.le_of_ble_eq_true rfl, Nat.le_of_ble_eq_true rfl⟩) (pA_V hK hP (ci := 12) (q0 := 0) rfl rfl) rfl rfl hl.1 rfl (lv_room (Nat.le_of_ble_eq_true rfl)) dX12_fitsLeft_46 ⟨Nat.le_of_ble_eq_true rfl, Nat.le_of_ble_eq_true rfl⟩) hS hA hP (fun r4 u4 H locs hw4 hP hS => ?_)
    have hw4 : 0 ≤ r4.toInt ∧ r4.toInt ≤ 1 := hw4
    exact ro_zret hx hb hr hlocks hS (nb_n (show 0 ≤ r4.toInt ∧ r4.toInt ≤ 1 from by omega)) dX12_fitsLeft_49 (show 0 ≤ r4.toInt ∧ r4.toInt ≤ 1 from by omega)
  · refine lv_tableIn (off := 63) (tgt := 64) hx hb dX12_fitsLeft_1 (by omega) (by omega) (by rw [f1]; rfl) (by decide) ?_
    refine lv_aload_n hx hb dX12_fitsLeft_64 rfl (lv_at hl 0 rfl) ?_
    refine lv_iload_n hx hb dX12_fitsLeft_65 rfl (lv_at hl 2 rfl) ?_
    refine ro_calli (va_runV (As := [.int w1]) (rest := []) ⟨hx, hb, hml, hown, hts⟩ (s_X12_isGoods l D s.heap.size o a t i q c d w1 hI (by omega)) (cwV 1 hts gm_X12_fitsLeft_X12_isGoods rfl rfl rfl (by decide +kernel) ⟨Nat.le_of_ble_eq_true rfl, Nat.le_of_ble_eq_true rfl⟩) (pA_V hK hP (ci := 12) (q0 := 0) rfl rfl) rfl rfl hl.1 rfl (lv_room (Nat.le_of_ble_eq_true rfl)) dX12_fitsLeft_66 ⟨Nat.le_of_ble_eq_true rfl, Nat.le_of_ble_eq_true rfl⟩) hS hA hP (fun r5 u5 H locs hw5 hP hS => ?_)
    have hw5 : 0 ≤ r5.toInt ∧ r5.toInt ≤ 1 := hw5
    exact ro_zret hx hb hr hlocks hS (nb_n (show 0 ≤ r5.toInt ∧ r5.toInt ≤ 1 from by omega)) dX12_fitsLeft_69 (show 0 ≤ r5.toInt ∧ r5.toInt ≤ 1 from by omega)
  · refine lv_tableIn (off := 63) (tgt := 64) hx hb dX12_fitsLeft_1 (by omega) (by omega) (by rw [f1]; rfl) (by decide) ?_
    refine lv_aload_n hx hb dX12_fitsLeft_64 rfl (lv_at hl 0 rfl) ?_
    refine lv_iload_n hx hb dX12_fitsLeft_65 rfl (lv_at hl 2 rfl) ?_
    refine ro_calli (va_runV (As := [.int w1]) (rest := []) ⟨hx, hb, hml, hown, hts⟩ (s_X12_isGoods l D s.heap.size o a t i q c d w1 hI (by omega)) (cwV 1 hts gm_X12_fitsLeft_X12_isGoods rfl rfl rfl (by decide +kernel) ⟨Nat.le_of_ble_eq_true rfl, Nat.le_of_ble_eq_true rfl⟩) (pA_V hK hP (ci := 12) (q0 := 0) rfl rfl) rfl rfl hl.1 rfl (lv_room (Nat.le_of_ble_eq_true rfl)) dX12_fitsLeft_66 ⟨Nat.le_of_ble_eq_true rfl, Nat.le_of_ble_eq_true rfl⟩) hS hA hP (fun r6 u6 H locs hw6 hP hS => ?_)
    have hw6 : 0 ≤ r6.toInt ∧ r6.toInt ≤ 1 := hw6
    exact ro_zret hx hb hr hlocks hS (nb_n (show 0 ≤ r6.toInt ∧ r6.toInt ≤ 1 from by omega)) dX12_fitsLeft_69 (show 0 ≤ r6.toInt ∧ r6.toInt ≤ 1 from by omega)
  · refine lv_tableIn (off := 63) (tgt := 64) hx hb dX12_fitsLeft_1 (by omega) (by omega) (by rw [f1]; rfl) (by decide) ?_
    refine lv_aload_n hx hb dX12_fitsLeft_64 rfl (lv_at hl 0 rfl) ?_
    refine lv_iload_n hx hb dX12_fitsLeft_65 rfl (lv_at hl 2 rfl) ?_
    refine ro_calli (va_runV (As := [.int w1]) (rest := []) ⟨hx, hb, hml, hown, hts⟩ (s_X12_isGoods l D s.heap.size o a t i q c d w1 hI (by omega)) (cwV 1 hts gm_X12_fitsLeft_X12_isGoods rfl rfl rfl (by decide +kernel) ⟨Nat.le_of_ble_eq_true rfl, Nat.le_of_ble_eq_true rfl⟩) (pA_V hK hP (ci := 12) (q0 := 0) rfl rfl) rfl rfl hl.1 rfl (lv_room (Nat.le_of_ble_eq_true rfl)) dX12_fitsLeft_66 ⟨Nat.le_of_ble_eq_true rfl, Nat.le_of_ble_eq_true rfl⟩) hS hA hP (fun r7 u7 H locs hw7 hP hS => ?_)
    have hw7 : 0 ≤ r7.toInt ∧ r7.toInt ≤ 1 := hw7
    exact ro_zret hx hb hr hlocks hS (nb_n (show 0 ≤ r7.toInt ∧ r7.toInt ≤ 1 from by omega)) dX12_fitsLeft_69 (show 0 ≤ r7.toInt ∧ r7.toInt ≤ 1 from by omega)
  · refine lv_tableIn (off := 49) (tgt := 50) hx hb dX12_fitsLeft_1 (by omega) (by omega) (by rw [f1]; rfl) (by decide) ?_
    refine lv_aload_n hx hb dX12_fitsLeft_50 rfl (lv_at hl 0 rfl) ?_
    refine lv_iload_n hx hb dX12_fitsLeft_51 rfl (lv_at hl 2 rfl) ?_
    refine lv_iconst (v := 0) hx hb dX12_fitsLeft_52 (by decide) ?_
    refine ro_calli (va_runV (As := [.int w1, .int 0]) (rest := []) ⟨hx, hb, hml, hown, hts⟩ (s_X12_isOf l D s.heap.size o a t i q c d w1 0 hI (by have h91 : (0 : Int32).toInt = 0 := (by decide); omega)) (cwV 2 hts gm_X12_fitsLeft_X12_isOf rfl rfl rfl (by decide +kernel) ⟨Nat.le_of_ble_eq_true rfl, Nat.le_of_ble_eq_true rfl⟩) (pA_V hK hP (ci := 12) (q0 := 0) rfl rfl) rfl rfl hl.1 rfl (lv_room (Nat.le_of_ble_eq_true rfl)) dX12_fitsLeft_53 ⟨Nat.le_of_ble_eq_true rfl, Nat.le_of_ble_eq_true rfl⟩) hS hA hP (fun r8 u8 H locs hw8 hP hS => ?_)
    have hw8 : 0 ≤ r8.toInt ∧ r8.toInt ≤ 1 := hw8
    exact ro_zret hx hb hr hlocks hS (nb_n (show 0 ≤ r8.toInt ∧ r8.toInt ≤ 1 from by omega)) dX12_fitsLeft_56 (show 0 ≤ r8.toInt ∧ r8.toInt ≤ 1 from by omega)
  · refine lv_tableIn (off := 56) (tgt := 57) hx hb dX12_fitsLeft_1 (by omega) (by omega) (by rw [f1]; rfl) (by decide) ?_
    refine lv_aload_n hx hb dX12_fitsLeft_57 rfl (lv_at hl 0 rfl) ?_
    refine lv_iload_n hx hb dX12_fitsLeft_58 rfl (lv_at hl 2 rfl) ?_
    refine lv_iload_n hx hb dX12_fitsLeft_59 rfl (lv_at hl 3 rfl) ?_
    refine ro_calli (va_runV (As := [.int w1, .int w2]) (rest := []) ⟨hx, hb, hml, hown, hts⟩ (s_X12_mayHave l D s.heap.size o a t i q c d w1 w2 hI (by omega)) (cwV 2 hts gm_X12_fitsLeft_X12_mayHave rfl rfl rfl (by decide +kernel) ⟨Nat.le_of_ble_eq_true rfl, Nat.le_of_ble_eq_true rfl⟩) (pA_V hK hP (ci := 12) (q0 := 0) rfl rfl) rfl rfl hl.1 rfl (lv_room (Nat.le_of_ble_eq_true rfl)) dX12_fitsLeft_60 ⟨Nat.le_of_ble_eq_true rfl, Nat.le_of_ble_eq_true rfl⟩) hS hA hP (fun r9 u9 H locs hw9 hP hS => ?_)
    have hw9 : 0 ≤ r9.toInt ∧ r9.toInt ≤ 1 := hw9
    exact ro_zret hx hb hr hlocks hS (nb_n (show 0 ≤ r9.toInt ∧ r9.toInt ≤ 1 from by omega)) dX12_fitsLeft_63 (show 0 ≤ r9.toInt ∧ r9.toInt ≤ 1 from by omega)

def wm_X12_fitsRight : List Cond := .code yX12_fitsRight cX12_fitsRight 3 (some .boolean) :: (([.methodLink RX12 184 yX12_isOf, .instanceMethod yX12_isOf, .selects RX12 yX12_isOf yX12_isOf, .initialized RX12, .code yX12_isOf cX12_isOf 4 (some .boolean), .fieldLink RX12 19 "TalePlayModel" "kindOf" "[I", .fieldLink RX12 13 "TalePlayModel" "parentOf" "[I", .methodLink RX12 191 yX12_isShutter, .instanceMethod yX12_isShutter, .selects RX12 yX12_isShutter yX12_isShutter, .code yX12_isShutter cX12_isShutter 2 (some .boolean)] : List Cond) ++ wsX120)
set_option maxRecDepth 20000 in
theorem gm_X12_fitsRight_X12_isOf : GoodIn wm_X12_fitsRight (wsV RX12 184 RX12 yX12_isOf wm_X12_isOf) := goodIn_app (goodIn_of _ (by decide +kernel)) (goodIn_r _ [5, 6, 7, 12, 13, 14, 15, 16, 17, 18, 19, 20, 21, 22, 23, 24, 25, 26, 27, 28, 29, 30, 31, 32, 33, 34, 35, 36, 37, 38, 39, 40, 41, 42, 43, 44, 45, 46, 47, 48, 49, 50, 51, 52, 53, 54, 55, 56, 57, 58, 59, 60, 61, 62, 63, 64, 65, 66, 67, 68, 69, 70, 71, 72, 73, 74, 75, 76, 77, 78, 79, 80] (by decide +kernel) (by decide +kernel))
set_option maxRecDepth 20000 in
theorem gm_X12_fitsRight_X12_isShutter : GoodIn wm_X12_fitsRight (wsV RX12 191 RX12 yX12_isShutter wm_X12_isShutter) := goodIn_app (goodIn_of _ (by decide +kernel)) (goodIn_r _ [11, 1, 2, 3, 4, 5, 6, 7, 12, 13, 14, 15, 16, 17, 18, 19, 20, 21, 22, 23, 24, 25, 26, 27, 28, 29, 30, 31, 32, 33, 34, 35, 36, 37, 38, 39, 40, 41, 42, 43, 44, 45, 46, 47, 48, 49, 50, 51, 52, 53, 54, 55, 56, 57, 58, 59, 60, 61, 62, 63, 64, 65, 66, 67, 68, 69, 70, 71, 72, 73, 74, 75, 76, 77, 78, 79, 80] (by decide +kernel) (by decide +kernel))
set_option maxHeartbeats 4000000 in
set_option maxRecDepth 100000 in
theorem s_X12_fitsRight (l : Launch) (D : va_G) (sz : Nat) (o : Nat) (a : Nat → Nat) (t : Nat → ClassId) (i : Nat → Int32) (q : Int64) (c : Nat → Nat → Int32) (d : Nat → Nat → Int64) (f : Int32) (w2 : Int32) (hI : mInv i c) (hw2 : 0 ≤ w2.toInt ∧ w2.toInt ≤ 29) : Met l yX12_fitsRight wm_X12_fitsRight ({ frames := 2, cells := 0, slots := 0, locals := 44 }) (va_Pc [.ref o, .int f, .int w2] (pA D sz (mW o a t i q c d) (mT t))) (va_Qi (fun (r : Int32) (_ : Unit) => (0 ≤ r.toInt ∧ r.toInt ≤ 1)) oA (ro sz)) 0 0 (ro sz) := by
  refine Met.ofW (cc := cX12_fitsRight) (maxL := 3) (ret := (some .boolean)) (by decide) rfl ?_
  intro p e s m args below meth cd s₁ B hml hv
  obtain ⟨rfl, hsz, hP, hK⟩ := hv
  have hx := B.exec
  have hb := B.bytes
  have hr := B.returns
  have hts := atoms_spec (ws := wm_X12_fitsRight) B.pre
  have hown : s.vm.findClass RX12 = some m.cls := findClass_of_methodNamed B.named
  have hlocks := B.notSynchronized
  subst hsz
  have hA : ∀ q : Nat, s.heap.size ≤ q → ro s.heap.size q := fun _ h => h
  have hS : va_S (ro s.heap.size) s.heap s.heap [] := va_S.rf
  have hl := lv_entry ([.ref o, .int f, .int w2]) (n := 3) (Nat.le_of_ble_eq_true rfl)
  rw [lg_entry_eq]
  generalize (lg_sl ([.ref o, .int f, .int w2]) ++ List.replicate (3 - (lg_sl ([.ref o, .int f, .int w2])).length) Slot.unset).toArray = ls at hl ⊢
  have hl : lv_has ls 3 [(0, .ref o), (1, .int f), (2, .int w2)] := hl
  refine lv_iload_n hx hb dX12_fitsRight_0 rfl (lv_at hl 1 rfl) ?_
  rcases (show (f.toInt < 0 ∨ 7 < f.toInt) ∨ f.toInt = 0 ∨ f.toInt = 1 ∨ f.toInt = 2 ∨ f.toInt = 3 ∨ f.toInt = 4 ∨ f.toInt = 5 ∨ f.toInt = 6 ∨ f.toInt = 7 by omega) with f1 | f1 | f1 | f1 | f1 | f1 | f1 | f1 | f1
  · refine lv_tableOut (tgt := 123) hx hb dX12_fitsRight_1 f1 (by decide) ?_
    refine lv_iconst (v := 1) hx hb dX12_fitsRight_123 (by decide) ?_
    exact ro_zret hx hb hr hlocks hS rfl dX12_fitsRight_124 (show 0 ≤ (1 : Int32).toInt ∧ (1 : Int32).toInt ≤ 1 from by decide)
  · refine lv_tableIn (off := 47) (tgt := 48) hx hb dX12_fitsRight_1 (by omega) (by omega) (by rw [f1]; rfl) (by decide) ?_
    refine lv_aload_n hx hb dX12_fitsRight_48 rfl (lv_at hl 0 rfl) ?_
    refine lv_iload_n hx hb dX12_fitsRight_49 rfl (lv_at hl 2 rfl) ?_
    refine lv_iconst (v := 0) hx hb dX12_fitsRight_50 (by decide) ?_
    refine ro_calli (va_runV (As := [.int w2, .int 0]) (rest := []) ⟨hx, hb, hml, hown, hts⟩ (s_X12_isOf l D s.heap.size o a t i q c d w2 0 hI (by have h91 : (0 : Int32).toInt = 0 := (by decide); omega)) (cwV 2 hts gm_X12_fitsRight_X12_isOf rfl rfl rfl (by decide +kernel) ⟨Nat.le_of_ble_eq_true rfl, Nat.le_of_ble_eq_true rfl⟩) (pA_V hK hP (ci := 12) (q0 := 0) rfl rfl) rfl rfl hl.1 rfl (lv_room (Nat.le_of_ble_eq_true rfl)) dX12_fitsRight_51 ⟨Nat.le_of_ble_eq_true rfl, Nat.le_of_ble_eq_true rfl⟩) hS hA hP (fun r2 u2 H locs hw2 hP hS => ?_)
    have hw2 : 0 ≤ r2.toInt ∧ r2.toInt ≤ 1 := hw2
    refine lv_if_ne (tgt := 66) hx hb dX12_fitsRight_54 (by decide) (fun c3 => ?_) (fun c3 => ?_)
    · have f3 := mt (ti_eq (a := r2.toInt) (b := 0) rfl (by decide)).mpr c3
      refine lv_iconst (v := 1) hx hb dX12_fitsRight_66 (by decide) ?_
      refine lv_goto (tgt := 71) hx hb dX12_fitsRight_67 (by decide) ?_
      exact ro_zret hx hb hr hlocks hS rfl dX12_fitsRight_71 (show 0 ≤ (1 : Int32).toInt ∧ (1 : Int32).toInt ≤ 1 from by decide)
    · have f3 := (ti_eq (a := r2.toInt) (b := 0) rfl (by decide)).mp c3
      refine lv_aload_n hx hb dX12_fitsRight_57 rfl (lv_at hl 0 rfl) ?_
      refine lv_iload_n hx hb dX12_fitsRight_58 rfl (lv_at hl 2 rfl) ?_
      refine lv_iconst (v := 3) hx hb dX12_fitsRight_59 (by decide) ?_
      refine ro_calli (va_runV (As := [.int w2, .int 3]) (rest := []) ⟨hx, hb, hml, hown, hts⟩ (s_X12_isOf l D H.size o a t i q c d w2 3 hI (by have h91 : (3 : Int32).toInt = 3 := (by decide); omega)) (cwV 2 hts gm_X12_fitsRight_X12_isOf rfl rfl rfl (by decide +kernel) ⟨Nat.le_of_ble_eq_true rfl, Nat.le_of_ble_eq_true rfl⟩) (pA_V hK hP (ci := 12) (q0 := 0) rfl rfl) rfl rfl hl.1 rfl (lv_room (Nat.le_of_ble_eq_true rfl)) dX12_fitsRight_60 ⟨Nat.le_of_ble_eq_true rfl, Nat.le_of_ble_eq_true rfl⟩) hS hA hP (fun r4 u4 H locs hw4 hP hS => ?_)
      have hw4 : 0 ≤ r4.toInt ∧ r4.toInt ≤ 1 := hw4
      refine lv_if_eq (tgt := 70) hx hb dX12_fitsRight_63 (by decide) (fun c5 => ?_) (fun c5 => ?_)
      · have f5 := (ti_eq (a := r4.toInt) (b := 0) rfl (by decide)).mp c5
        refine lv_iconst (v := 0) hx hb dX12_fitsRight_70 (by decide) ?_
        exact ro_zret hx hb hr hlocks hS rfl dX12_fitsRight_71 (show 0 ≤ (0 : Int32).toInt ∧ (0 : Int32).toInt ≤ 1 from by decide)
      · have f5 := mt (ti_eq (a := r4.toInt) (b := 0) rfl (by decide)).mpr c5
        refine lv_iconst (v := 1) hx hb dX12_fitsRight_66 (by decide) ?_
        refine lv_goto (tgt := 71) hx hb dX12_fitsRight_67 (by decide) ?_
        exact ro_zret hx hb hr hlocks hS rfl dX12_fitsRight_71 (show 0 ≤ (1 : Int32).toInt ∧ (1 : Int32).toInt ≤ 1 from by decide)
  · refine lv_tableIn (off := 71) (tgt := 72) hx hb dX12_fitsRight_1 (by omega) (by omega) (by rw [f1]; rfl) (by decide) ?_
    refine lv_aload_n hx hb dX12_fitsRight_72 rfl (lv_at hl 0 rfl) ?_
    refine lv_iload_n hx hb dX12_fitsRight_73 rfl (lv_at hl 2 rfl) ?_
    refine lv_iconst (v := 4) hx hb dX12_fitsRight_74 (by decide) ?_
    refine ro_calli (va_runV (As := [.int w2, .int 4]) (rest := []) ⟨hx, hb, hml, hown, hts⟩ (s_X12_isOf l D s.heap.size o a t i q c d w2 4 hI (by have h91 : (4 : Int32).toInt = 4 := (by decide); omega)) (cwV 2 hts gm_X12_fitsRight_X12_isOf rfl rfl rfl (by decide +kernel) ⟨Nat.le_of_ble_eq_true rfl, Nat.le_of_ble_eq_true rfl⟩) (pA_V hK hP (ci := 12) (q0 := 0) rfl rfl) rfl rfl hl.1 rfl (lv_room (Nat.le_of_ble_eq_true rfl)) dX12_fitsRight_75 ⟨Nat.le_of_ble_eq_true rfl, Nat.le_of_ble_eq_true rfl⟩) hS hA hP (fun r6 u6 H locs hw6 hP hS => ?_)
    have hw6 : 0 ≤ r6.toInt ∧ r6.toInt ≤ 1 := hw6
    exact ro_zret hx hb hr hlocks hS (nb_n (show 0 ≤ r6.toInt ∧ r6.toInt ≤ 1 from by omega)) dX12_fitsRight_78 (show 0 ≤ r6.toInt ∧ r6.toInt ≤ 1 from by omega)
  · refine lv_tableIn (off := 78) (tgt := 79) hx hb dX12_fitsRight_1 (by omega) (by omega) (by rw [f1]; rfl) (by decide) ?_
    refine lv_aload_n hx hb dX12_fitsRight_79 rfl (lv_at hl 0 rfl) ?_
    refine lv_iload_n hx hb dX12_fitsRight_80 rfl (lv_at hl 2 rfl) ?_
    refine lv_iconst (v := 5) hx hb dX12_fitsRight_81 (by decide) ?_
    refine ro_calli (va_runV (As := [.int w2, .int 5]) (rest := []) ⟨hx, hb, hml, hown, hts⟩ (s_X12_isOf l D s.heap.size o a t i q c d w2 5 hI (by have h91 : (5 : Int32).toInt = 5 := (by decide); omega)) (cwV 2 hts gm_X12_fitsRight_X12_isOf rfl rfl rfl (by decide +kernel) ⟨Nat.le_of_ble_eq_true rfl, Nat.le_of_ble_eq_true rfl⟩) (pA_V hK hP (ci := 12) (q0 := 0) rfl rfl) rfl rfl hl.1 rfl (lv_room (Nat.le_of_ble_eq_true rfl)) dX12_fitsRight_82 ⟨Nat.le_of_ble_eq_true rfl, Nat.le_of_ble_eq_true rfl⟩) hS hA hP (fun r7 u7 H locs hw7 hP hS => ?_)
    have hw7 : 0 ≤ r7.toInt ∧ r7.toInt ≤ 1 := hw7
    exact ro_zret hx hb hr hlocks hS (nb_n (show 0 ≤ r7.toInt ∧ r7.toInt ≤ 1 from by omega)) dX12_fitsRight_85 (show 0 ≤ r7.toInt ∧ r7.toInt ≤ 1 from by omega)
  · refine lv_tableIn (off := 78) (tgt := 79) hx hb dX12_fitsRight_1 (by omega) (by omega) (by rw [f1]; rfl) (by decide) ?_
    refine lv_aload_n hx hb dX12_fitsRight_79 rfl (lv_at hl 0 rfl) ?_
    refine lv_iload_n hx hb dX12_fitsRight_80 rfl (lv_at hl 2 rfl) ?_
    refine lv_iconst (v := 5) hx hb dX12_fitsRight_81 (by decide) ?_
    refine ro_calli (va_runV (As := [.int w2, .int 5]) (rest := []) ⟨hx, hb, hml, hown, hts⟩ (s_X12_isOf l D s.heap.size o a t i q c d w2 5 hI (by have h91 : (5 : Int32).toInt = 5 := (by decide); omega)) (cwV 2 hts gm_X12_fitsRight_X12_isOf rfl rfl rfl (by decide +kernel) ⟨Nat.le_of_ble_eq_true rfl, Nat.le_of_ble_eq_true rfl⟩) (pA_V hK hP (ci := 12) (q0 := 0) rfl rfl) rfl rfl hl.1 rfl (lv_room (Nat.le_of_ble_eq_true rfl)) dX12_fitsRight_82 ⟨Nat.le_of_ble_eq_true rfl, Nat.le_of_ble_eq_true rfl⟩) hS hA hP (fun r8 u8 H locs hw8 hP hS => ?_)
    have hw8 : 0 ≤ r8.toInt ∧ r8.toInt ≤ 1 := hw8
    exact ro_zret hx hb hr hlocks hS (nb_n (show 0 ≤ r8.toInt ∧ r8.toInt ≤ 1 from by omega)) dX12_fitsRight_85 (show 0 ≤ r8.toInt ∧ r8.toInt ≤ 1 from by omega)
  · refine lv_tableIn (off := 85) (tgt := 86) hx hb dX12_fitsRight_1 (by omega) (by omega) (by rw [f1]; rfl) (by decide) ?_
    refine lv_aload_n hx hb dX12_fitsRight_86 rfl (lv_at hl 0 rfl) ?_
    refine lv_iload_n hx hb dX12_fitsRight_87 rfl (lv_at hl 2 rfl) ?_
    refine lv_iconst (v := 1) hx hb dX12_fitsRight_88 (by decide) ?_
    refine ro_calli (va_runV (As := [.int w2, .int 1]) (rest := []) ⟨hx, hb, hml, hown, hts⟩ (s_X12_isOf l D s.heap.size o a t i q c d w2 1 hI (by have h91 : (1 : Int32).toInt = 1 := (by decide); omega)) (cwV 2 hts gm_X12_fitsRight_X12_isOf rfl rfl rfl (by decide +kernel) ⟨Nat.le_of_ble_eq_true rfl, Nat.le_of_ble_eq_true rfl⟩) (pA_V hK hP (ci := 12) (q0 := 0) rfl rfl) rfl rfl hl.1 rfl (lv_room (Nat.le_of_ble_eq_true rfl)) dX12_fitsRight_89 ⟨Nat.le_of_ble_eq_true rfl, Nat.le_of_ble_eq_true rfl⟩) hS hA hP (fun r9 u9 H locs hw9 hP hS => ?_)
    have hw9 : 0 ≤ r9.toInt ∧ r9.toInt ≤ 1 := hw9
    exact ro_zret hx hb hr hlocks hS (nb_n (show 0 ≤ r9.toInt ∧ r9.toInt ≤ 1 from by omega)) dX12_fitsRight_92 (show 0 ≤ r9.toInt ∧ r9.toInt ≤ 1 from by omega)
  · refine lv_tableIn (off := 92) (tgt := 93) hx hb dX12_fitsRight_1 (by omega) (by omega) (by rw [f1]; rfl) (by decide) ?_
    refine lv_aload_n hx hb dX12_fitsRight_93 rfl (lv_at hl 0 rfl) ?_
    refine lv_iload_n hx hb dX12_fitsRight_94 rfl (lv_at hl 2 rfl) ?_
    refine lv_iconst (v := 0) hx hb dX12_fitsRight_95 (by decide) ?_
    refine ro_calli (va_runV (As := [.int w2, .int 0]) (rest := []) ⟨hx, hb, hml, hown, hts⟩ (s_X12_isOf l D s.heap.size o a t i q c d w2 0 hI (by have h91 : (0 : Int32).toInt = 0 := (by decide); omega)) (cwV 2 hts gm_X12_fitsRight_X12_isOf rfl rfl rfl (by decide +kernel) ⟨Nat.le_of_ble_eq_true rfl, Nat.le_of_ble_eq_true rfl⟩) (pA_V hK hP (ci := 12) (q0 := 0) rfl rfl) rfl rfl hl.1 rfl (lv_room (Nat.le_of_ble_eq_true rfl)) dX12_fitsRight_96 ⟨Nat.le_of_ble_eq_true rfl, Nat.le_of_ble_eq_true rfl⟩) hS hA hP (fun r10 u10 H locs hw10 hP hS => ?_)
    have hw10 : 0 ≤ r10.toInt ∧ r10.toInt ≤ 1 := hw10
    refine lv_if_ne (tgt := 111) hx hb dX12_fitsRight_99 (by decide) (fun c11 => ?_) (fun c11 => ?_)
    · have f11 := mt (ti_eq (a := r10.toInt) (b := 0) rfl (by decide)).mpr c11
      refine lv_iconst (v := 1) hx hb dX12_fitsRight_111 (by decide) ?_
      refine lv_goto (tgt := 116) hx hb dX12_fitsRight_112 (by decide) ?_
      exact ro_zret hx hb hr hlocks hS rfl dX12_fitsRight_116 (show 0 ≤ (1 : Int32).toInt ∧ (1 : Int32).toInt ≤ 1 from by decide)
    · have f11 := (ti_eq (a := r10.toInt) (b := 0) rfl (by decide)).mp c11
      refine lv_aload_n hx hb dX12_fitsRight_102 rfl (lv_at hl 0 rfl) ?_
      refine lv_iload_n hx hb dX12_fitsRight_103 rfl (lv_at hl 2 rfl) ?_
      refine lv_iconst (v := 2) hx hb dX12_fitsRight_104 (by decide) ?_
      refine ro_calli (va_runV (As := [.int w2, .int 2]) (rest := []) ⟨hx, hb, hml, hown, hts⟩ (s_X12_isOf l D H.size o a t i q c d w2 2 hI (by have h91 : (2 : Int32).toInt = 2 := (by decide); omega)) (cwV 2 hts gm_X12_fitsRight_X12_isOf rfl rfl rfl (by decide +kernel) ⟨Nat.le_of_ble_eq_true rfl, Nat.le_of_ble_eq_true rfl⟩) (pA_V hK hP (ci := 12) (q0 := 0) rfl rfl) rfl rfl hl.1 rfl (lv_room (Nat.le_of_ble_eq_true rfl)) dX12_fitsRight_105 ⟨Nat.le_of_ble_eq_true rfl, Nat.le_of_ble_eq_true rfl⟩) hS hA hP (fun r12 u12 H locs hw12 hP hS => ?_)
      have hw12 : 0 ≤ r12.toInt ∧ r12.toInt ≤ 1 := hw12
      refine lv_if_eq (tgt := 115) hx hb dX12_fitsRight_108 (by decide) (fun c13 => ?_) (fun c13 => ?_)
      · have f13 := (ti_eq (a := r12.toInt) (b := 0) rfl (by decide)).mp c13
        refine lv_iconst (v := 0) hx hb dX12_fitsRight_115 (by decide) ?_
        exact ro_zret hx hb hr hlocks hS rfl dX12_fitsRight_116 (show 0 ≤ (0 : Int32).toInt ∧ (0 : Int32).toInt ≤ 1 from by decide)
      · have f13 := mt (ti_eq (a := r12.toInt) (b := 0) rfl (by decide)).mpr c13
        refine lv_iconst (v := 1) hx hb dX12_fitsRight_111 (by decide) ?_
        refine lv_goto (tgt := 116) hx hb dX12_fitsRight_112 (by decide) ?_
        exact ro_zret hx hb hr hlocks hS rfl dX12_fitsRight_116 (show 0 ≤ (1 : Int32).toInt ∧ (1 : Int32).toInt ≤ 1 from by decide)
  · refine lv_tableIn (off := 122) (tgt := 123) hx hb dX12_fitsRight_1 (by omega) (by omega) (by rw [f1]; rfl) (by decide) ?_
    refine lv_iconst (v := 1) hx hb dX12_fitsRight_123 (by decide) ?_
    exact ro_zret hx hb hr hlocks hS rfl dX12_fitsRight_124 (show 0 ≤ (1 : Int32).toInt ∧ (1 : Int32).toInt ≤ 1 from by decide)
  · refine lv_tableIn (off := 116) (tgt := 117) hx hb dX12_fitsRight_1 (by omega) (by omega) (by rw [f1]; rfl) (by decide) ?_
    refine lv_aload_n hx hb dX12_fitsRight_117 rfl (lv_at hl 0 rfl) ?_
    refine lv_iload_n hx hb dX12_fitsRight_118 rfl (lv_at hl 2 rfl) ?_
    refine ro_calli (va_runV (As := [.int w2]) (rest := []) ⟨hx, hb, hml, hown, hts⟩ (s_X12_isShutter l D s.heap.size o a t i q c d w2 hI (by omega)) (cwV 1 hts gm_X12_fitsRight_X12_isShutter rfl rfl rfl (by decide +kernel) ⟨Nat.le_of_ble_eq_true rfl, Nat.le_of_ble_eq_true rfl⟩) (pA_V hK hP (ci := 12) (q0 := 0) rfl rfl) rfl rfl hl.1 rfl (lv_room (Nat.le_of_ble_eq_true rfl)) dX12_fitsRight_119 ⟨Nat.le_of_ble_eq_true rfl, Nat.le_of_ble_eq_true rfl⟩) hS hA hP (fun r14 u14 H locs hw14 hP hS => ?_)
    have hw14 : 0 ≤ r14.toInt ∧ r14.toInt ≤ 1 := hw14
    exact ro_zret hx hb hr hlocks hS (nb_n (show 0 ≤ r14.toInt ∧ r14.toInt ≤ 1 from by omega)) dX12_fitsRight_122 (show 0 ≤ r14.toInt ∧ r14.toInt ≤ 1 from by omega)

def wm_X12_clashes : List Cond := .code yX12_clashes cX12_clashes 2 none :: (([.fieldLink RX12 41 "TalePlayModel" "row" "[I", .fieldLink RX12 205 "TalePlayModel" "rowMany" "I"] : List Cond) ++ wsX120)
set_option maxHeartbeats 4000000 in
set_option maxRecDepth 100000 in
theorem s_X12_clashes (l : Launch) (D : va_G) (sz : Nat) (o : Nat) (a : Nat → Nat) (t : Nat → ClassId) (i : Nat → Int32) (q : Int64) (c : Nat → Nat → Int32) (d : Nat → Nat → Int64) (s1 : Int32) (hI : mInv i c) (hs1 : 0 ≤ s1.toInt ∧ s1.toInt ≤ 199) (hrm : (i 15).toInt ≤ 199) : Met l yX12_clashes wm_X12_clashes ({ frames := 0, cells := 0, slots := 0, locals := 0 }) (va_Pc [.ref o, .int s1] (pB D sz (mW o a t i q c d) (mT t))) (va_Qv (fun (u : MS) => True ∧ mInv u.1 u.2.2.1 ∧ (∀ k, k ∉ ([15] : List Nat) → u.1 k = i k) ∧ (∀ k, k ∉ ([14] : List Nat) → u.2.2.1 k = c k) ∧ ((u.1 15).toInt = (i 15).toInt + 1)) (oC D (va_A (mW o a t i q c d) sz) (fun u : MS => mW o a t u.1 u.2.1 u.2.2.1 u.2.2.2) (fun _ => [])) (va_A (mW o a t i q c d) sz)) 0 0 (va_A (mW o a t i q c d) sz) := by
  refine Met.ofW (cc := cX12_clashes) (maxL := 2) (ret := none) (by decide) rfl ?_
  intro p e s m args below meth cd s₁ B hml hv
  obtain ⟨rfl, hsz, hP, hK, hD0⟩ := hv
  have hx := B.exec
  have hb := B.bytes
  have hr := B.returns
  have hts := atoms_spec (ws := wm_X12_clashes) B.pre
  have hown : s.vm.findClass RX12 = some m.cls := findClass_of_methodNamed B.named
  have hlocks := B.notSynchronized
  subst hsz
  have hD := hD0.self (sz := s.heap.size)
  generalize hAe : va_A (mW o a t i q c d) s.heap.size = A at hD ⊢
  have hA : ∀ q : Nat, s.heap.size ≤ q → A q := fun q h => by rw [← hAe]; exact Or.inr h
  have hS : va_S A s.heap s.heap [] := va_S.rf
  have hfi : ∀ k, k ∉ ([15] : List Nat) → i k = i k := fun _ _ => rfl
  have hfc : ∀ k, k ∉ ([14] : List Nat) → c k = c k := fun _ _ => rfl
  have hl := lv_entry ([.ref o, .int s1]) (n := 2) (Nat.le_of_ble_eq_true rfl)
  rw [lg_entry_eq]
  generalize (lg_sl ([.ref o, .int s1]) ++ List.replicate (2 - (lg_sl ([.ref o, .int s1])).length) Slot.unset).toArray = ls at hl ⊢
  have hl : lv_has ls 2 [(0, .ref o), (1, .int s1)] := hl
  refine lv_aload_n hx hb dX12_clashes_0 rfl (lv_at hl 0 rfl) ?_
  refine va_get (D := D) (ci := 12) (v := .ref (a 14)) (C := RX12) (T := TX12) (N := 69) hx hb hts (fun _ h => List.mem_cons_of_mem _ (List.mem_append_right _ h)) hown hK hP 0 rfl rfl 14 (by decide) (hts (.fieldLink RX12 41 "TalePlayModel" "row" "[I") (by decide +kernel)) (fun _ h9 => h9) rfl dX12_clashes_1 ?_
  refine lv_aload_n hx hb dX12_clashes_4 rfl (lv_at hl 0 rfl) ?_
  refine va_get (D := D) (ci := 12) (v := .int (i 15)) (C := RX12) (T := TX12) (N := 69) hx hb hts (fun _ h => List.mem_cons_of_mem _ (List.mem_append_right _ h)) hown hK hP 0 rfl rfl 15 (by decide) (hts (.fieldLink RX12 205 "TalePlayModel" "rowMany" "I") (by decide +kernel)) (fun _ h9 => h9) rfl dX12_clashes_5 ?_
  have rb15_i : 0 ≤ (i 15).toInt ∧ (i 15).toInt ≤ 200 := hI.1 15
  refine lv_iload_n hx hb dX12_clashes_8 rfl (lv_at hl 1 rfl) ?_
  refine va_iast hx hb hK hP hD hS 11 10 rfl rfl (vp_in_iff.mpr (by have h9 : (i 15).toInt = (i 15).toInt := rfl; omega)) dX12_clashes_9 (fun H locs hP hD hS => ?_)
  have hI := mInv_c hI (k := 14) (j := ((i 15) : Int32).toNatClampNeg) (x := s1) (show 0 ≤ (s1 : Int32).toInt ∧ (s1 : Int32).toInt ≤ 199 from by omega)
  have hfc := fr_c hfc (k := 14) (j := ((i 15) : Int32).toNatClampNeg) (x := s1) (by decide)
  have hP : va_P D vwCl (mW o a t i q (updA c 14 ((i 15) : Int32).toNatClampNeg s1) d) H := hP
  have hD : va_D A (mW o a t i q (updA c 14 ((i 15) : Int32).toNatClampNeg s1) d) := hD
  refine lv_aload_n hx hb dX12_clashes_10 rfl (lv_at hl 0 rfl) ?_
  refine lv_dup hx hb dX12_clashes_11 rfl ?_
  refine va_get (D := D) (ci := 12) (v := .int (i 15)) (C := RX12) (T := TX12) (N := 69) hx hb hts (fun _ h => List.mem_cons_of_mem _ (List.mem_append_right _ h)) hown hK hP 0 rfl rfl 15 (by decide) (hts (.fieldLink RX12 205 "TalePlayModel" "rowMany" "I") (by decide +kernel)) (fun _ h9 => h9) rfl dX12_clashes_12 ?_
  refine lv_iconst (v := 1) hx hb dX12_clashes_15 (by decide) ?_
  refine lv_iadd hx hb dX12_clashes_16 ?_
  refine lv_topi (fun x1 ex1 => ?_)
  have tx1 := ti_add (a := (i 15).toInt) (b := 1) ex1 rfl (by decide) (by omega) (by omega)
  refine va_put (D := D) (ci := 12) (v := .int x1) (ty := .int) (C := RX12) (T := TX12) (N := 69) hx hb hts (fun _ h => List.mem_cons_of_mem _ (List.mem_append_right _ h)) tyX12 tyX12_ok nmX12 hown hK hP hD hS 0 rfl rfl 15 (by decide) (hts (.fieldLink RX12 205 "TalePlayModel" "rowMany" "I") (by decide +kernel)) (fun _ h9 => h9) rfl (by decide +kernel) rfl rfl (Nat.le_of_ble_eq_true rfl) dX12_clashes_17 (fun H locs hP hD hS => ?_)
  have hI := mInv_i hI (k := 15) (v := x1) (show 0 ≤ (x1 : Int32).toInt ∧ (x1 : Int32).toInt ≤ 200 from by have h9 : x1.toInt = ((i 15).toInt + 1) := tx1; omega)
  have hfi := fr_i hfi (k := 15) (v := x1) (by decide)
  have hP : va_P D vwCl (mW o a t (upd i 15 x1) q (updA c 14 ((i 15) : Int32).toNatClampNeg s1) d) H := hP
  have hD : va_D A (mW o a t (upd i 15 x1) q (updA c 14 ((i 15) : Int32).toNatClampNeg s1) d) := hD
  exact rw_vret ((upd i 15 x1), q, (updA c 14 ((i 15) : Int32).toNatClampNeg s1), d) hx hb hr hlocks hS (hK.sub (tys' := []) [] rfl) hP hD dX12_clashes_20 ⟨trivial, hI, hfi, hfc, (show (x1 : Int32).toInt = (i 15).toInt + 1 from by have h70 : x1.toInt = ((i 15).toInt + 1) := tx1; omega)⟩

def wm_X12_saidFlag : List Cond := .code yX12_saidFlag cX12_saidFlag 4 (some .int) :: (([.methodLink RX12 216 yX12_saidSo, .instanceMethod yX12_saidSo, .selects RX12 yX12_saidSo yX12_saidSo, .initialized RX12, .code yX12_saidSo cX12_saidSo 6 (some .int), .fieldLink RX12 202 "TalePlayModel" "sentences" "I", .fieldLink RX12 37 "TalePlayModel" "isSaid" "[Z", .fieldLink RX12 25 "TalePlayModel" "form" "[I", .fieldLink RX12 28 "TalePlayModel" "left" "[I", .fieldLink RX12 31 "TalePlayModel" "middle" "[I", .fieldLink RX12 34 "TalePlayModel" "right" "[I", .fieldLink RX12 19 "TalePlayModel" "kindOf" "[I", .methodLink RX12 184 yX12_isOf, .instanceMethod yX12_isOf, .selects RX12 yX12_isOf yX12_isOf, .code yX12_isOf cX12_isOf 4 (some .boolean), .fieldLink RX12 13 "TalePlayModel" "parentOf" "[I", .fieldLink RX12 16 "TalePlayModel" "defaults" "[I"] : List Cond) ++ wsX120)
set_option maxRecDepth 20000 in
theorem gm_X12_saidFlag_X12_saidSo : GoodIn wm_X12_saidFlag (wsV RX12 216 RX12 yX12_saidSo wm_X12_saidSo) := goodIn_app (goodIn_of _ (by decide +kernel)) (goodIn_r _ [5, 6, 7, 8, 9, 10, 11, 19, 20, 21, 22, 23, 24, 25, 26, 27, 28, 29, 30, 31, 32, 33, 34, 35, 36, 37, 38, 39, 40, 41, 42, 43, 44, 45, 46, 47, 48, 49, 50, 51, 52, 53, 54, 55, 56, 57, 58, 59, 60, 61, 62, 63, 64, 65, 66, 67, 68, 69, 70, 71, 72, 73, 74, 75, 76, 77, 78, 79, 80, 81, 82, 83, 84, 85, 86, 87] (by decide +kernel) (by decide +kernel))
set_option maxRecDepth 20000 in
theorem gm_X12_saidFlag_X12_isOf : GoodIn wm_X12_saidFlag (wsV RX12 184 RX12 yX12_isOf wm_X12_isOf) := goodIn_app (goodIn_of _ (by decide +kernel)) (goodIn_r _ [16, 12, 17, 19, 20, 21, 22, 23, 24, 25, 26, 27, 28, 29, 30, 31, 32, 33, 34, 35, 36, 37, 38, 39, 40, 41, 42, 43, 44, 45, 46, 47, 48, 49, 50, 51, 52, 53, 54, 55, 56, 57, 58, 59, 60, 61, 62, 63, 64, 65, 66, 67, 68, 69, 70, 71, 72, 73, 74, 75, 76, 77, 78, 79, 80, 81, 82, 83, 84, 85, 86, 87] (by decide +kernel) (by decide +kernel))
set_option maxHeartbeats 4000000 in
set_option maxRecDepth 100000 in
theorem s_X12_saidFlag (l : Launch) (D : va_G) (sz : Nat) (o : Nat) (a : Nat → Nat) (t : Nat → ClassId) (i : Nat → Int32) (q : Int64) (c : Nat → Nat → Int32) (d : Nat → Nat → Int64) (w : Int32) (f : Int32) (hI : mInv i c) (hw : 0 ≤ w.toInt ∧ w.toInt ≤ 29) (hf : 0 ≤ f.toInt ∧ f.toInt ≤ 5) : Met l yX12_saidFlag wm_X12_saidFlag ({ frames := 1, cells := 0, slots := 0, locals := 25 }) (va_Pc [.ref o, .int w, .int f] (pA D sz (mW o a t i q c d) (mT t))) (va_Qi (fun (r : Int32) (_ : Unit) => (r.toInt = -9 ∨ (0 ≤ r.toInt ∧ r.toInt ≤ 1))) oA (ro sz)) 0 0 (ro sz) := by
  refine Met.ofW (cc := cX12_saidFlag) (maxL := 4) (ret := (some .int)) (by decide) rfl ?_
  intro p e s m args below meth cd s₁ B hml hv
  obtain ⟨rfl, hsz, hP, hK⟩ := hv
  have hx := B.exec
  have hb := B.bytes
  have hr := B.returns
  have hts := atoms_spec (ws := wm_X12_saidFlag) B.pre
  have hown : s.vm.findClass RX12 = some m.cls := findClass_of_methodNamed B.named
  have hlocks := B.notSynchronized
  subst hsz
  have hA : ∀ q : Nat, s.heap.size ≤ q → ro s.heap.size q := fun _ h => h
  have hS : va_S (ro s.heap.size) s.heap s.heap [] := va_S.rf
  have hl := lv_entry ([.ref o, .int w, .int f]) (n := 4) (Nat.le_of_ble_eq_true rfl)
  rw [lg_entry_eq]
  generalize (lg_sl ([.ref o, .int w, .int f]) ++ List.replicate (4 - (lg_sl ([.ref o, .int w, .int f])).length) Slot.unset).toArray = ls at hl ⊢
  have hl : lv_has ls 4 [(0, .ref o), (1, .int w), (2, .int f)] := hl
  refine lv_aload_n hx hb dX12_saidFlag_0 rfl (lv_at hl 0 rfl) ?_
  refine lv_bipush (v := 6) hx hb dX12_saidFlag_1 (by decide) ?_
  refine lv_iload_n hx hb dX12_saidFlag_3 rfl (lv_at hl 1 rfl) ?_
  refine lv_iload_n hx hb dX12_saidFlag_4 rfl (lv_at hl 2 rfl) ?_
  refine lv_iconst (v := 1) hx hb dX12_saidFlag_5 (by decide) ?_
  refine ro_calli (va_runV (As := [.int 6, .int w, .int f, .int 1]) (rest := []) ⟨hx, hb, hml, hown, hts⟩ (s_X12_saidSo l D s.heap.size o a t i q c d 6 w f 1 hI ) (cwV 4 hts gm_X12_saidFlag_X12_saidSo rfl rfl rfl (by decide +kernel) ⟨Nat.le_of_ble_eq_true rfl, Nat.le_of_ble_eq_true rfl⟩) (pA_V hK hP (ci := 12) (q0 := 0) rfl rfl) rfl rfl hl.1 rfl (lv_room (Nat.le_of_ble_eq_true rfl)) dX12_saidFlag_6 ⟨Nat.le_of_ble_eq_true rfl, Nat.le_of_ble_eq_true rfl⟩) hS hA hP (fun r1 u1 H locs hw1 hP hS => ?_)
  have hw1 : r1.toInt = -9 ∨ (0 ≤ r1.toInt ∧ r1.toInt ≤ 199) := hw1
  refine lv_bipush (v := (-9)) hx hb dX12_saidFlag_9 (by decide) ?_
  refine lv_icmp_eq (tgt := 16) hx hb dX12_saidFlag_11 (by decide) (fun c2 => ?_) (fun c2 => ?_)
  · have f2 := (ti_eq (a := r1.toInt) (b := (-9)) rfl (by decide)).mp c2
    refine lv_aload_n hx hb dX12_saidFlag_16 rfl (lv_at hl 0 rfl) ?_
    refine lv_bipush (v := 6) hx hb dX12_saidFlag_17 (by decide) ?_
    refine lv_iload_n hx hb dX12_saidFlag_19 rfl (lv_at hl 1 rfl) ?_
    refine lv_iload_n hx hb dX12_saidFlag_20 rfl (lv_at hl 2 rfl) ?_
    refine lv_iconst (v := 0) hx hb dX12_saidFlag_21 (by decide) ?_
    refine ro_calli (va_runV (As := [.int 6, .int w, .int f, .int 0]) (rest := []) ⟨hx, hb, hml, hown, hts⟩ (s_X12_saidSo l D H.size o a t i q c d 6 w f 0 hI ) (cwV 4 hts gm_X12_saidFlag_X12_saidSo rfl rfl rfl (by decide +kernel) ⟨Nat.le_of_ble_eq_true rfl, Nat.le_of_ble_eq_true rfl⟩) (pA_V hK hP (ci := 12) (q0 := 0) rfl rfl) rfl rfl hl.1 rfl (lv_room (Nat.le_of_ble_eq_true rfl)) dX12_saidFlag_22 ⟨Nat.le_of_ble_eq_true rfl, Nat.le_of_ble_eq_true rfl⟩) hS hA hP (fun r3 u3 H locs hw3 hP hS => ?_)
    have hw3 : r3.toInt = -9 ∨ (0 ≤ r3.toInt ∧ r3.toInt ≤ 199) := hw3
    refine lv_bipush (v := (-9)) hx hb dX12_saidFlag_25 (by decide) ?_
    refine lv_icmp_eq (tgt := 32) hx hb dX12_saidFlag_27 (by decide) (fun c4 => ?_) (fun c4 => ?_)
    · have f4 := (ti_eq (a := r3.toInt) (b := (-9)) rfl (by decide)).mp c4
      refine lv_aload_n hx hb dX12_saidFlag_32 rfl (lv_at hl 0 rfl) ?_
      refine va_get (D := D) (ci := 12) (v := .ref (a 6)) (C := RX12) (T := TX12) (N := 69) hx hb hts (fun _ h => List.mem_cons_of_mem _ (List.mem_append_right _ h)) hown hK hP 0 rfl rfl 6 (by decide) (hts (.fieldLink RX12 19 "TalePlayModel" "kindOf" "[I") (by decide +kernel)) (fun _ h9 => h9) rfl dX12_saidFlag_33 ?_
      refine lv_iload_n hx hb dX12_saidFlag_36 rfl (lv_at hl 1 rfl) ?_
      refine va_iald hx hb hK hP 4 3 rfl rfl (vp_in_iff.mpr (by have h9 : w.toInt = w.toInt := rfl; omega)) dX12_saidFlag_37 ?_
      refine lv_topi (fun x5 ex5 => ?_)
      have rx5 : 0 ≤ x5.toInt ∧ x5.toInt ≤ 23 := by rw [ex5]; exact hI.2 6 _
      refine lv_istore_n (lv' := [(3, .int x5), (0, .ref o), (1, .int w), (2, .int f)]) hx hb dX12_saidFlag_38 rfl hl (by decide) rfl (fun ls hl => ?_)
      have lp6 : ∀ (fu : Nat) (y6_3 : Int32), (y6_3.toInt = -9 ∨ (0 ≤ y6_3.toInt ∧ y6_3.toInt ≤ 23)) → (y6_3.toInt + 10).toNat < fu → ∀ (H : Heap) (locs : List Loc) (ls : Array Slot), va_P D vwCl (mW o a t i q c d) H → va_S (ro s.heap.size) s.heap H locs → lv_has ls 4 [(3, .int y6_3), (0, .ref o), (1, .int w), (2, .int f)] → W p l e (headSpec wm_X12_saidFlag ({ frames := 1, cells := 0, slots := 0, locals := 25 })).room s m ([.ref o, .int w, .int f] : List Value).toArray below meth cd H locs 0 0 (MQ below (va_Qi (fun (r : Int32) (_ : Unit) => (r.toInt = -9 ∨ (0 ≤ r.toInt ∧ r.toInt ≤ 1))) oA (ro s.heap.size)) ([.ref o, .int w, .int f] : List Value).toArray s 0 0 (ro s.heap.size)) (F0 m 39 ls []) := by
        intro fu
        induction fu with
        | zero => intro y6_3 hy6_3 hm; exact absurd hm (Nat.not_lt_zero _)
        | succ fu ih =>
          intro y6_3 hy6_3 hm H locs ls hP hS hl
          refine lv_iload_n hx hb dX12_saidFlag_39 rfl (lv_at hl 0 rfl) ?_
          refine lv_bipush (v := (-9)) hx hb dX12_saidFlag_40 (by decide) ?_
          refine lv_icmp_eq (tgt := 83) hx hb dX12_saidFlag_42 (by decide) (fun c7 => ?_) (fun c7 => ?_)
          · have f7 := (ti_eq (a := y6_3.toInt) (b := (-9)) rfl (by decide)).mp c7
            refine lv_iload_n hx hb dX12_saidFlag_83 rfl (lv_at hl 3 rfl) ?_
            refine lv_iconst (v := 2) hx hb dX12_saidFlag_84 (by decide) ?_
            refine lv_icmp_ne (tgt := 101) hx hb dX12_saidFlag_85 (by decide) (fun c8 => ?_) (fun c8 => ?_)
            · have f8 := mt (ti_eq (a := f.toInt) (b := 2) rfl (by decide)).mpr c8
              refine lv_iconst (v := 0) hx hb dX12_saidFlag_101 (by decide) ?_
              exact ro_iret hx hb hr hlocks hS dX12_saidFlag_102 (show (0 : Int32).toInt = -9 ∨ (0 ≤ (0 : Int32).toInt ∧ (0 : Int32).toInt ≤ 1) from by decide)
            · have f8 := (ti_eq (a := f.toInt) (b := 2) rfl (by decide)).mp c8
              refine lv_aload_n hx hb dX12_saidFlag_88 rfl (lv_at hl 1 rfl) ?_
              refine lv_iload_n hx hb dX12_saidFlag_89 rfl (lv_at hl 2 rfl) ?_
              refine lv_iconst (v := 0) hx hb dX12_saidFlag_90 (by decide) ?_
              refine ro_calli (va_runV (As := [.int w, .int 0]) (rest := []) ⟨hx, hb, hml, hown, hts⟩ (s_X12_isOf l D H.size o a t i q c d w 0 hI (by have h91 : (0 : Int32).toInt = 0 := (by decide); omega)) (cwV 2 hts gm_X12_saidFlag_X12_isOf rfl rfl rfl (by decide +kernel) ⟨Nat.le_of_ble_eq_true rfl, Nat.le_of_ble_eq_true rfl⟩) (pA_V hK hP (ci := 12) (q0 := 0) rfl rfl) rfl rfl hl.1 rfl (lv_room (Nat.le_of_ble_eq_true rfl)) dX12_saidFlag_91 ⟨Nat.le_of_ble_eq_true rfl, Nat.le_of_ble_eq_true rfl⟩) hS hA hP (fun r9 u9 H locs hw9 hP hS => ?_)
              have hw9 : 0 ≤ r9.toInt ∧ r9.toInt ≤ 1 := hw9
              refine lv_if_eq (tgt := 101) hx hb dX12_saidFlag_94 (by decide) (fun c10 => ?_) (fun c10 => ?_)
              · have f10 := (ti_eq (a := r9.toInt) (b := 0) rfl (by decide)).mp c10
                refine lv_iconst (v := 0) hx hb dX12_saidFlag_101 (by decide) ?_
                exact ro_iret hx hb hr hlocks hS dX12_saidFlag_102 (show (0 : Int32).toInt = -9 ∨ (0 ≤ (0 : Int32).toInt ∧ (0 : Int32).toInt ≤ 1) from by decide)
              · have f10 := mt (ti_eq (a := r9.toInt) (b := 0) rfl (by decide)).mpr c10
                refine lv_iconst (v := 1) hx hb dX12_saidFlag_97 (by decide) ?_
                refine lv_goto (tgt := 102) hx hb dX12_saidFlag_98 (by decide) ?_
                exact ro_iret hx hb hr hlocks hS dX12_saidFlag_102 (show (1 : Int32).toInt = -9 ∨ (0 ≤ (1 : Int32).toInt ∧ (1 : Int32).toInt ≤ 1) from by decide)
          · have f7 := mt (ti_eq (a := y6_3.toInt) (b := (-9)) rfl (by decide)).mpr c7
            refine lv_aload_n hx hb dX12_saidFlag_45 rfl (lv_at hl 1 rfl) ?_
            refine va_get (D := D) (ci := 12) (v := .ref (a 4)) (C := RX12) (T := TX12) (N := 69) hx hb hts (fun _ h => List.mem_cons_of_mem _ (List.mem_append_right _ h)) hown hK hP 0 rfl rfl 4 (by decide) (hts (.fieldLink RX12 16 "TalePlayModel" "defaults" "[I") (by decide +kernel)) (fun _ h9 => h9) rfl dX12_saidFlag_46 ?_
            refine lv_bipush (v := 6) hx hb dX12_saidFlag_49 (by decide) ?_
            refine lv_iload_n hx hb dX12_saidFlag_51 rfl (lv_at hl 0 rfl) ?_
            refine lv_imul hx hb dX12_saidFlag_52 ?_
            refine lv_topi (fun x11 ex11 => ?_)
            have tx11 := ti_mul (a := 6) (b := y6_3.toInt) ex11 (by decide) rfl (by omega) (by omega)
            refine lv_iload_n hx hb dX12_saidFlag_53 rfl (lv_at hl 3 rfl) ?_
            refine lv_iadd hx hb dX12_saidFlag_54 ?_
            refine lv_topi (fun x12 ex12 => ?_)
            have tx12 := ti_add (a := (6 * y6_3.toInt)) (b := f.toInt) ex12 tx11 rfl (by omega) (by omega)
            refine va_iald hx hb hK hP 3 2 rfl rfl (vp_in_iff.mpr (by have h9 : x12.toInt = ((6 * y6_3.toInt) + f.toInt) := tx12; omega)) dX12_saidFlag_55 ?_
            refine lv_topi (fun x13 ex13 => ?_)
            have rx13 : x13.toInt = -9 ∨ (0 ≤ x13.toInt ∧ x13.toInt ≤ 1) := by rw [ex13]; exact hI.2 4 _
            refine lv_bipush (v := (-9)) hx hb dX12_saidFlag_56 (by decide) ?_
            refine lv_icmp_eq (tgt := 73) hx hb dX12_saidFlag_58 (by decide) (fun c14 => ?_) (fun c14 => ?_)
            · have f14 := (ti_eq (a := x13.toInt) (b := (-9)) rfl (by decide)).mp c14
              refine lv_aload_n hx hb dX12_saidFlag_73 rfl (lv_at hl 1 rfl) ?_
              refine va_get (D := D) (ci := 12) (v := .ref (a 3)) (C := RX12) (T := TX12) (N := 69) hx hb hts (fun _ h => List.mem_cons_of_mem _ (List.mem_append_right _ h)) hown hK hP 0 rfl rfl 3 (by decide) (hts (.fieldLink RX12 13 "TalePlayModel" "parentOf" "[I") (by decide +kernel)) (fun _ h9 => h9) rfl dX12_saidFlag_74 ?_
              refine lv_iload_n hx hb dX12_saidFlag_77 rfl (lv_at hl 0 rfl) ?_
              refine va_iald hx hb hK hP 2 1 rfl rfl (vp_in_iff.mpr (by have h9 : y6_3.toInt = y6_3.toInt := rfl; omega)) dX12_saidFlag_78 ?_
              refine lv_topi (fun x15 ex15 => ?_)
              have rx15 : x15.toInt = -9 ∨ (0 ≤ x15.toInt ∧ x15.toInt ≤ 23 ∧ x15.toInt < (((y6_3 : Int32).toNatClampNeg : Nat) : Int)) := by rw [ex15]; exact hI.2 3 _
              have rc15 : (((y6_3 : Int32).toNatClampNeg : Nat) : Int) = (y6_3 : Int32).toInt := cl_nn (by have h9 : y6_3.toInt = y6_3.toInt := rfl; omega)
              refine lv_istore_n (lv' := [(3, .int x15), (0, .ref o), (1, .int w), (2, .int f)]) hx hb dX12_saidFlag_79 rfl hl (by decide) rfl (fun ls hl => ?_)
              refine lv_goto (tgt := 39) hx hb dX12_saidFlag_80 (by decide) ?_
              exact ih x15 (by omega) (by omega) _ _ _ hP hS (lv_sub hl [0, 1, 2, 3] rfl)
            · have f14 := mt (ti_eq (a := x13.toInt) (b := (-9)) rfl (by decide)).mpr c14
              refine lv_aload_n hx hb dX12_saidFlag_61 rfl (lv_at hl 1 rfl) ?_
              refine va_get (D := D) (ci := 12) (v := .ref (a 4)) (C := RX12) (T := TX12) (N := 69) hx hb hts (fun _ h => List.mem_cons_of_mem _ (List.mem_append_right _ h)) hown hK hP 0 rfl rfl 4 (by decide) (hts (.fieldLink RX12 16 "TalePlayModel" "defaults" "[I") (by decide +kernel)) (fun _ h9 => h9) rfl dX12_saidFlag_62 ?_
              refine lv_bipush (v := 6) hx hb dX12_saidFlag_65 (by decide) ?_
              refine lv_iload_n hx hb dX12_saidFlag_67 rfl (lv_at hl 0 rfl) ?_
              refine lv_imul hx hb dX12_saidFlag_68 ?_
              refine lv_topi (fun x16 ex16 => ?_)
              have tx16 := ti_mul (a := 6) (b := y6_3.toInt) ex16 (by decide) rfl (by omega) (by omega)
              refine lv_iload_n hx hb dX12_saidFlag_69 rfl (lv_at hl 3 rfl) ?_
              refine lv_iadd hx hb dX12_saidFlag_70 ?_
              refine lv_topi (fun x17 ex17 => ?_)
              have tx17 := ti_add (a := (6 * y6_3.toInt)) (b := f.toInt) ex17 tx16 rfl (by omega) (by omega)
              refine va_iald hx hb hK hP 3 2 rfl rfl (vp_in_iff.mpr (by have h9 : x17.toInt = ((6 * y6_3.toInt) + f.toInt) := tx17; omega)) dX12_saidFlag_71 ?_
              refine lv_topi (fun x18 ex18 => ?_)
              have rx18 : x18.toInt = -9 ∨ (0 ≤ x18.toInt ∧ x18.toInt ≤ 1) := by rw [ex18]; exact hI.2 4 _
              exact ro_iret hx hb hr hlocks hS dX12_saidFlag_72 (show x18.toInt = -9 ∨ (0 ≤ x18.toInt ∧ x18.toInt ≤ 1) from by omega)
      exact lp6 _ x5 (by omega) (Nat.lt_succ_self _) _ _ _ hP hS (lv_sub hl [0, 1, 2, 3] rfl)
    · have f4 := mt (ti_eq (a := r3.toInt) (b := (-9)) rfl (by decide)).mpr c4
      refine lv_iconst (v := 0) hx hb dX12_saidFlag_30 (by decide) ?_
      exact ro_iret hx hb hr hlocks hS dX12_saidFlag_31 (show (0 : Int32).toInt = -9 ∨ (0 ≤ (0 : Int32).toInt ∧ (0 : Int32).toInt ≤ 1) from by decide)
  · have f2 := mt (ti_eq (a := r1.toInt) (b := (-9)) rfl (by decide)).mpr c2
    refine lv_iconst (v := 1) hx hb dX12_saidFlag_14 (by decide) ?_
    exact ro_iret hx hb hr hlocks hS dX12_saidFlag_15 (show (1 : Int32).toInt = -9 ∨ (0 ≤ (1 : Int32).toInt ∧ (1 : Int32).toInt ≤ 1) from by decide)

def wm_X12_isExitBarred : List Cond := .code yX12_isExitBarred cX12_isExitBarred 5 (some .boolean) :: (([.fieldLink RX12 202 "TalePlayModel" "sentences" "I", .methodLink RX12 184 yX12_isOf, .instanceMethod yX12_isOf, .selects RX12 yX12_isOf yX12_isOf, .initialized RX12, .code yX12_isOf cX12_isOf 4 (some .boolean), .fieldLink RX12 19 "TalePlayModel" "kindOf" "[I", .fieldLink RX12 13 "TalePlayModel" "parentOf" "[I", .fieldLink RX12 205 "TalePlayModel" "rowMany" "I", .fieldLink RX12 37 "TalePlayModel" "isSaid" "[Z", .fieldLink RX12 25 "TalePlayModel" "form" "[I", .fieldLink RX12 31 "TalePlayModel" "middle" "[I", .methodLink RX12 212 yX12_clashes, .instanceMethod yX12_clashes, .selects RX12 yX12_clashes yX12_clashes, .code yX12_clashes cX12_clashes 2 none, .fieldLink RX12 41 "TalePlayModel" "row" "[I", .fieldLink RX12 28 "TalePlayModel" "left" "[I", .fieldLink RX12 34 "TalePlayModel" "right" "[I"] : List Cond) ++ wsX120)
set_option maxRecDepth 20000 in
theorem gm_X12_isExitBarred_X12_isOf : GoodIn wm_X12_isExitBarred (wsV RX12 184 RX12 yX12_isOf wm_X12_isOf) := goodIn_app (goodIn_of _ (by decide +kernel)) (goodIn_r _ [6, 7, 8, 20, 21, 22, 23, 24, 25, 26, 27, 28, 29, 30, 31, 32, 33, 34, 35, 36, 37, 38, 39, 40, 41, 42, 43, 44, 45, 46, 47, 48, 49, 50, 51, 52, 53, 54, 55, 56, 57, 58, 59, 60, 61, 62, 63, 64, 65, 66, 67, 68, 69, 70, 71, 72, 73, 74, 75, 76, 77, 78, 79, 80, 81, 82, 83, 84, 85, 86, 87, 88] (by decide +kernel) (by decide +kernel))
set_option maxRecDepth 20000 in
theorem gm_X12_isExitBarred_X12_clashes : GoodIn wm_X12_isExitBarred (wsV RX12 212 RX12 yX12_clashes wm_X12_clashes) := goodIn_app (goodIn_of _ (by decide +kernel)) (goodIn_r _ [16, 17, 9, 20, 21, 22, 23, 24, 25, 26, 27, 28, 29, 30, 31, 32, 33, 34, 35, 36, 37, 38, 39, 40, 41, 42, 43, 44, 45, 46, 47, 48, 49, 50, 51, 52, 53, 54, 55, 56, 57, 58, 59, 60, 61, 62, 63, 64, 65, 66, 67, 68, 69, 70, 71, 72, 73, 74, 75, 76, 77, 78, 79, 80, 81, 82, 83, 84, 85, 86, 87, 88] (by decide +kernel) (by decide +kernel))
set_option maxHeartbeats 4000000 in
set_option maxRecDepth 100000 in
theorem s_X12_isExitBarred (l : Launch) (D : va_G) (sz : Nat) (o : Nat) (a : Nat → Nat) (t : Nat → ClassId) (i : Nat → Int32) (q : Int64) (c : Nat → Nat → Int32) (d : Nat → Nat → Int64) (w1 : Int32) (w2 : Int32) (w3 : Int32) (hI : mInv i c) (hw1 : 0 ≤ w1.toInt ∧ w1.toInt ≤ 29) (hw2 : 0 ≤ w2.toInt ∧ w2.toInt ≤ 29) (hrm : (i 15).toInt = 0) : Met l yX12_isExitBarred wm_X12_isExitBarred ({ frames := 1, cells := 0, slots := 0, locals := 23 }) (va_Pc [.ref o, .int w1, .int w2, .int w3] (pB D sz (mW o a t i q c d) (mT t))) (va_Qi (fun (r : Int32) (u : MS) => (0 ≤ r.toInt ∧ r.toInt ≤ 1) ∧ mInv u.1 u.2.2.1 ∧ (∀ k, k ∉ ([15] : List Nat) → u.1 k = i k) ∧ (∀ k, k ∉ ([14] : List Nat) → u.2.2.1 k = c k)) (oC D (va_A (mW o a t i q c d) sz) (fun u : MS => mW o a t u.1 u.2.1 u.2.2.1 u.2.2.2) (fun _ => [])) (va_A (mW o a t i q c d) sz)) 0 0 (va_A (mW o a t i q c d) sz) := by
  refine Met.ofW (cc := cX12_isExitBarred) (maxL := 5) (ret := (some .boolean)) (by decide) rfl ?_
  intro p e s m args below meth cd s₁ B hml hv
  obtain ⟨rfl, hsz, hP, hK, hD0⟩ := hv
  have hx := B.exec
  have hb := B.bytes
  have hr := B.returns
  have hts := atoms_spec (ws := wm_X12_isExitBarred) B.pre
  have hown : s.vm.findClass RX12 = some m.cls := findClass_of_methodNamed B.named
  have hlocks := B.notSynchronized
  subst hsz
  have hD := hD0.self (sz := s.heap.size)
  generalize hAe : va_A (mW o a t i q c d) s.heap.size = A at hD ⊢
  have hA : ∀ q : Nat, s.heap.size ≤ q → A q := fun q h => by rw [← hAe]; exact Or.inr h
  have hS : va_S A s.heap s.heap [] := va_S.rf
  have hfi : ∀ k, k ∉ ([15] : List Nat) → i k = i k := fun _ _ => rfl
  have hfc : ∀ k, k ∉ ([14] : List Nat) → c k = c k := fun _ _ => rfl
  have hl := lv_entry ([.ref o, .int w1, .int w2, .int w3]) (n := 5) (Nat.le_of_ble_eq_true rfl)
  rw [lg_entry_eq]
  generalize (lg_sl ([.ref o, .int w1, .int w2, .int w3]) ++ List.replicate (5 - (lg_sl ([.ref o, .int w1, .int w2, .int w3])).length) Slot.unset).toArray = ls at hl ⊢
  have hl : lv_has ls 5 [(0, .ref o), (1, .int w1), (2, .int w2), (3, .int w3)] := hl
  refine lv_iconst (v := 0) hx hb dX12_isExitBarred_0 (by decide) ?_
  refine lv_istore (lv' := [(4, .int 0), (0, .ref o), (1, .int w1), (2, .int w2), (3, .int w3)]) hx hb dX12_isExitBarred_1 hl (by decide) rfl (fun ls hl => ?_)
  have lp1 : ∀ (fu : Nat) (y1_4 : Int32), (0 ≤ y1_4.toInt ∧ y1_4.toInt ≤ 200) → (200 - y1_4.toInt).toNat < fu → ∀ (H : Heap) (locs : List Loc) (ls : Array Slot), va_P D vwCl (mW o a t i q c d) H → va_D A (mW o a t i q c d) → va_S A s.heap H locs → lv_has ls 5 [(4, .int y1_4), (0, .ref o), (1, .int w1), (2, .int w2), (3, .int w3)] → W p l e (headSpec wm_X12_isExitBarred ({ frames := 1, cells := 0, slots := 0, locals := 23 })).room s m ([.ref o, .int w1, .int w2, .int w3] : List Value).toArray below meth cd H locs 0 0 (MQ below (va_Qi (fun (r : Int32) (u : MS) => (0 ≤ r.toInt ∧ r.toInt ≤ 1) ∧ mInv u.1 u.2.2.1 ∧ (∀ k, k ∉ ([15] : List Nat) → u.1 k = i k) ∧ (∀ k, k ∉ ([14] : List Nat) → u.2.2.1 k = c k)) (oC D A (fun u : MS => mW o a t u.1 u.2.1 u.2.2.1 u.2.2.2) (fun _ => [])) A) ([.ref o, .int w1, .int w2, .int w3] : List Value).toArray s 0 0 A) (F0 m 3 ls []) := by
    intro fu
    induction fu with
    | zero => intro y1_4 hy1_4 hm; exact absurd hm (Nat.not_lt_zero _)
    | succ fu ih =>
      intro y1_4 hy1_4 hm H locs ls hP hD hS hl
      refine lv_iload hx hb dX12_isExitBarred_3 (lv_at hl 0 rfl) ?_
      refine lv_aload_n hx hb dX12_isExitBarred_5 rfl (lv_at hl 1 rfl) ?_
      refine va_get (D := D) (ci := 12) (v := .int (i 8)) (C := RX12) (T := TX12) (N := 69) hx hb hts (fun _ h => List.mem_cons_of_mem _ (List.mem_append_right _ h)) hown hK hP 0 rfl rfl 8 (by decide) (hts (.fieldLink RX12 202 "TalePlayModel" "sentences" "I") (by decide +kernel)) (fun _ h9 => h9) rfl dX12_isExitBarred_6 ?_
      have rb8_i : 0 ≤ (i 8).toInt ∧ (i 8).toInt ≤ 200 := hI.1 8
      refine lv_icmp_ge (tgt := 69) hx hb dX12_isExitBarred_9 (by decide) (fun c2 => ?_) (fun c2 => ?_)
      · have f2 := (ti_le (a := (i 8).toInt) (b := y1_4.toInt) rfl rfl).mp c2
        refine lv_aload_n hx hb dX12_isExitBarred_69 rfl (lv_at hl 1 rfl) ?_
        refine lv_iload_n hx hb dX12_isExitBarred_70 rfl (lv_at hl 3 rfl) ?_
        refine lv_iconst (v := 2) hx hb dX12_isExitBarred_71 (by decide) ?_
        refine ro_calli (va_runV (As := [.int w2, .int 2]) (rest := []) ⟨hx, hb, hml, hown, hts⟩ (s_X12_isOf l D H.size o a t i q c d w2 2 hI (by have h91 : (2 : Int32).toInt = 2 := (by decide); omega)) (cwV 2 hts gm_X12_isExitBarred_X12_isOf rfl rfl rfl (by decide +kernel) ⟨Nat.le_of_ble_eq_true rfl, Nat.le_of_ble_eq_true rfl⟩) (pA_V hK hP (ci := 12) (q0 := 0) rfl rfl) rfl rfl hl.1 rfl (lv_room (Nat.le_of_ble_eq_true rfl)) dX12_isExitBarred_72 ⟨Nat.le_of_ble_eq_true rfl, Nat.le_of_ble_eq_true rfl⟩) hS hA hP (fun r3 u3 H locs hw3 hP hS => ?_)
        have hw3 : 0 ≤ r3.toInt ∧ r3.toInt ≤ 1 := hw3
        refine lv_if_ne (tgt := 80) hx hb dX12_isExitBarred_75 (by decide) (fun c4 => ?_) (fun c4 => ?_)
        · have f4 := mt (ti_eq (a := r3.toInt) (b := 0) rfl (by decide)).mpr c4
          refine lv_iconst (v := 0) hx hb dX12_isExitBarred_80 (by decide) ?_
          refine lv_istore (lv' := [(4, .int 0), (0, .ref o), (1, .int w1), (2, .int w2), (3, .int w3)]) hx hb dX12_isExitBarred_81 hl (by decide) rfl (fun ls hl => ?_)
          have lp5 : ∀ (fu : Nat) (y5_4 : Int32), (0 ≤ y5_4.toInt ∧ y5_4.toInt ≤ 200) → (200 - y5_4.toInt).toNat < fu → ∀ (H : Heap) (locs : List Loc) (ls : Array Slot), va_P D vwCl (mW o a t i q c d) H → va_D A (mW o a t i q c d) → va_S A s.heap H locs → lv_has ls 5 [(4, .int y5_4), (0, .ref o), (1, .int w1), (2, .int w2), (3, .int w3)] → W p l e (headSpec wm_X12_isExitBarred ({ frames := 1, cells := 0, slots := 0, locals := 23 })).room s m ([.ref o, .int w1, .int w2, .int w3] : List Value).toArray below meth cd H locs 0 0 (MQ below (va_Qi (fun (r : Int32) (u : MS) => (0 ≤ r.toInt ∧ r.toInt ≤ 1) ∧ mInv u.1 u.2.2.1 ∧ (∀ k, k ∉ ([15] : List Nat) → u.1 k = i k) ∧ (∀ k, k ∉ ([14] : List Nat) → u.2.2.1 k = c k)) (oC D A (fun u : MS => mW o a t u.1 u.2.1 u.2.2.1 u.2.2.2) (fun _ => [])) A) ([.ref o, .int w1, .int w2, .int w3] : List Value).toArray s 0 0 A) (F0 m 83 ls []) := by
            intro fu
            induction fu with
            | zero => intro y5_4 hy5_4 hm; exact absurd hm (Nat.not_lt_zero _)
            | succ fu ih =>
              intro y5_4 hy5_4 hm H locs ls hP hD hS hl
              refine lv_iload hx hb dX12_isExitBarred_83 (lv_at hl 0 rfl) ?_
              refine lv_aload_n hx hb dX12_isExitBarred_85 rfl (lv_at hl 1 rfl) ?_
              refine va_get (D := D) (ci := 12) (v := .int (i 8)) (C := RX12) (T := TX12) (N := 69) hx hb hts (fun _ h => List.mem_cons_of_mem _ (List.mem_append_right _ h)) hown hK hP 0 rfl rfl 8 (by decide) (hts (.fieldLink RX12 202 "TalePlayModel" "sentences" "I") (by decide +kernel)) (fun _ h9 => h9) rfl dX12_isExitBarred_86 ?_
              refine lv_icmp_ge (tgt := 149) hx hb dX12_isExitBarred_89 (by decide) (fun c6 => ?_) (fun c6 => ?_)
              · have f6 := (ti_le (a := (i 8).toInt) (b := y5_4.toInt) rfl rfl).mp c6
                refine lv_iconst (v := 0) hx hb dX12_isExitBarred_149 (by decide) ?_
                refine lv_istore (lv' := [(4, .int 0), (0, .ref o), (1, .int w1), (2, .int w2), (3, .int w3)]) hx hb dX12_isExitBarred_150 hl (by decide) rfl (fun ls hl => ?_)
                have lp7 : ∀ (fu : Nat) (i7 : Nat → Int32) (q7 : Int64) (c7 : Nat → Nat → Int32) (d7 : Nat → Nat → Int64) (y7_4 : Int32), mInv i7 c7 → (∀ k, k ∉ ([15] : List Nat) → i7 k = i k) → (∀ k, k ∉ ([14] : List Nat) → c7 k = c k) → (0 ≤ y7_4.toInt ∧ y7_4.toInt ≤ 200) → ((i7 15).toInt ≤ y7_4.toInt) → (200 - y7_4.toInt).toNat < fu → ∀ (H : Heap) (locs : List Loc) (ls : Array Slot), va_P D vwCl (mW o a t i7 q7 c7 d7) H → va_D A (mW o a t i7 q7 c7 d7) → va_S A s.heap H locs → lv_has ls 5 [(4, .int y7_4), (0, .ref o), (1, .int w1), (2, .int w2), (3, .int w3)] → W p l e (headSpec wm_X12_isExitBarred ({ frames := 1, cells := 0, slots := 0, locals := 23 })).room s m ([.ref o, .int w1, .int w2, .int w3] : List Value).toArray below meth cd H locs 0 0 (MQ below (va_Qi (fun (r : Int32) (u : MS) => (0 ≤ r.toInt ∧ r.toInt ≤ 1) ∧ mInv u.1 u.2.2.1 ∧ (∀ k, k ∉ ([15] : List Nat) → u.1 k = i k) ∧ (∀ k, k ∉ ([14] : List Nat) → u.2.2.1 k = c k)) (oC D A (fun u : MS => mW o a t u.1 u.2.1 u.2.2.1 u.2.2.2) (fun _ => [])) A) ([.ref o, .int w1, .int w2, .int w3] : List Value).toArray s 0 0 A) (F0 m 152 ls []) := by
                  intro fu
                  induction fu with
                  | zero => intro i7 q7 c7 d7 y7_4 hI hfi hfc hy7_4 hz7_0 hm; exact absurd hm (Nat.not_lt_zero _)
                  | succ fu ih =>
                    intro i7 q7 c7 d7 y7_4 hI hfi hfc hy7_4 hz7_0 hm H locs ls hP hD hS hl
                    refine lv_iload hx hb dX12_isExitBarred_152 (lv_at hl 0 rfl) ?_
                    refine lv_aload_n hx hb dX12_isExitBarred_154 rfl (lv_at hl 1 rfl) ?_
                    refine va_get (D := D) (ci := 12) (v := .int (i7 8)) (C := RX12) (T := TX12) (N := 69) hx hb hts (fun _ h => List.mem_cons_of_mem _ (List.mem_append_right _ h)) hown hK hP 0 rfl rfl 8 (by decide) (hts (.fieldLink RX12 202 "TalePlayModel" "sentences" "I") (by decide +kernel)) (fun _ h9 => h9) rfl dX12_isExitBarred_155 ?_
                    have rb8_i7 : 0 ≤ (i7 8).toInt ∧ (i7 8).toInt ≤ 200 := hI.1 8
                    refine lv_icmp_ge (tgt := 205) hx hb dX12_isExitBarred_158 (by decide) (fun c8 => ?_) (fun c8 => ?_)
                    · have f8 := (ti_le (a := (i7 8).toInt) (b := y7_4.toInt) rfl rfl).mp c8
                      refine lv_aload_n hx hb dX12_isExitBarred_205 rfl (lv_at hl 1 rfl) ?_
                      refine va_get (D := D) (ci := 12) (v := .int (i7 15)) (C := RX12) (T := TX12) (N := 69) hx hb hts (fun _ h => List.mem_cons_of_mem _ (List.mem_append_right _ h)) hown hK hP 0 rfl rfl 15 (by decide) (hts (.fieldLink RX12 205 "TalePlayModel" "rowMany" "I") (by decide +kernel)) (fun _ h9 => h9) rfl dX12_isExitBarred_206 ?_
                      have rb15_i7 : 0 ≤ (i7 15).toInt ∧ (i7 15).toInt ≤ 200 := hI.1 15
                      refine lv_iconst (v := 2) hx hb dX12_isExitBarred_209 (by decide) ?_
                      refine lv_icmp_ge (tgt := 218) hx hb dX12_isExitBarred_210 (by decide) (fun c9 => ?_) (fun c9 => ?_)
                      · have f9 := (ti_le (a := 2) (b := (i7 15).toInt) (by decide) rfl).mp c9
                        refine lv_aload_n hx hb dX12_isExitBarred_218 rfl (lv_at hl 1 rfl) ?_
                        refine va_get (D := D) (ci := 12) (v := .int (i7 15)) (C := RX12) (T := TX12) (N := 69) hx hb hts (fun _ h => List.mem_cons_of_mem _ (List.mem_append_right _ h)) hown hK hP 0 rfl rfl 15 (by decide) (hts (.fieldLink RX12 205 "TalePlayModel" "rowMany" "I") (by decide +kernel)) (fun _ h9 => h9) rfl dX12_isExitBarred_219 ?_
                        refine lv_if_le (tgt := 229) hx hb dX12_isExitBarred_222 (by decide) (fun c10 => ?_) (fun c10 => ?_)
                        · have f10 := (ti_le (a := (i7 15).toInt) (b := 0) rfl (by decide)).mp c10
                          refine lv_iconst (v := 0) hx hb dX12_isExitBarred_229 (by decide) ?_
                          exact rw_zret (i7, q7, c7, d7) hx hb hr hlocks hS (hK.sub (tys' := []) [] rfl) hP hD rfl dX12_isExitBarred_230 ⟨(show 0 ≤ (0 : Int32).toInt ∧ (0 : Int32).toInt ≤ 1 from by decide), hI, hfi, hfc⟩
                        · have f10 := mt (ti_le (a := (i7 15).toInt) (b := 0) rfl (by decide)).mpr c10
                          refine lv_iconst (v := 1) hx hb dX12_isExitBarred_225 (by decide) ?_
                          refine lv_goto (tgt := 230) hx hb dX12_isExitBarred_226 (by decide) ?_
                          exact rw_zret (i7, q7, c7, d7) hx hb hr hlocks hS (hK.sub (tys' := []) [] rfl) hP hD rfl dX12_isExitBarred_230 ⟨(show 0 ≤ (1 : Int32).toInt ∧ (1 : Int32).toInt ≤ 1 from by decide), hI, hfi, hfc⟩
                      · have f9 := mt (ti_le (a := 2) (b := (i7 15).toInt) (by decide) rfl).mpr c9
                        refine lv_aload_n hx hb dX12_isExitBarred_213 rfl (lv_at hl 1 rfl) ?_
                        refine lv_iconst (v := 0) hx hb dX12_isExitBarred_214 (by decide) ?_
                        refine va_put (D := D) (ci := 12) (v := .int 0) (ty := .int) (C := RX12) (T := TX12) (N := 69) hx hb hts (fun _ h => List.mem_cons_of_mem _ (List.mem_append_right _ h)) tyX12 tyX12_ok nmX12 hown hK hP hD hS 0 rfl rfl 15 (by decide) (hts (.fieldLink RX12 205 "TalePlayModel" "rowMany" "I") (by decide +kernel)) (fun _ h9 => h9) rfl (by decide +kernel) rfl rfl (Nat.le_of_ble_eq_true rfl) dX12_isExitBarred_215 (fun H locs hP hD hS => ?_)
                        have hI := mInv_i hI (k := 15) (v := 0) (show 0 ≤ (0 : Int32).toInt ∧ (0 : Int32).toInt ≤ 200 from by decide)
                        have hfi := fr_i hfi (k := 15) (v := 0) (by decide)
                        have hP : va_P D vwCl (mW o a t (upd i7 15 0) q7 c7 d7) H := hP
                        have hD : va_D A (mW o a t (upd i7 15 0) q7 c7 d7) := hD
                        refine lv_aload_n hx hb dX12_isExitBarred_218 rfl (lv_at hl 1 rfl) ?_
                        refine va_get (D := D) (ci := 12) (v := .int 0) (C := RX12) (T := TX12) (N := 69) hx hb hts (fun _ h => List.mem_cons_of_mem _ (List.mem_append_right _ h)) hown hK hP 0 rfl rfl 15 (by decide) (hts (.fieldLink RX12 205 "TalePlayModel" "rowMany" "I") (by decide +kernel)) (fun _ h9 => h9) rfl dX12_isExitBarred_219 ?_
                        refine lv_if_le (tgt := 229) hx hb dX12_isExitBarred_222 (by decide) (fun _ => ?_) (fun q9 => absurd (by decide) q9)
                        refine lv_iconst (v := 0) hx hb dX12_isExitBarred_229 (by decide) ?_
                        exact rw_zret ((upd i7 15 0), q7, c7, d7) hx hb hr hlocks hS (hK.sub (tys' := []) [] rfl) hP hD rfl dX12_isExitBarred_230 ⟨(show 0 ≤ (0 : Int32).toInt ∧ (0 : Int32).toInt ≤ 1 from by decide), hI, hfi, hfc⟩
                    · have f8 := mt (ti_le (a := (i7 8).toInt) (b := y7_4.toInt) rfl rfl).mpr c8
                      refine lv_aload_n hx hb dX12_isExitBarred_161 rfl (lv_at hl 1 rfl) ?_
                      refine va_get (D := D) (ci := 12) (v := .ref (a 13)) (C := RX12) (T := TX12) (N := 69) hx hb hts (fun _ h => List.mem_cons_of_mem _ (List.mem_append_right _ h)) hown hK hP 0 rfl rfl 13 (by decide) (hts (.fieldLink RX12 37 "TalePlayModel" "isSaid" "[Z") (by decide +kernel)) (fun _ h9 => h9) rfl dX12_isExitBarred_162 ?_
                      refine lv_iload hx hb dX12_isExitBarred_165 (lv_at hl 0 rfl) ?_
                      refine va_zald hx hb hK hP 10 9 rfl rfl (vp_in_iff.mpr (by have h9 : y7_4.toInt = y7_4.toInt := rfl; omega)) dX12_isExitBarred_167 ?_
                      refine lv_topi (fun x11 ex11 => ?_)
                      have rx11 : 0 ≤ x11.toInt ∧ x11.toInt ≤ 1 := by rw [ex11]; exact hI.2 13 _
                      refine lv_if_eq (tgt := 199) hx hb dX12_isExitBarred_168 (by decide) (fun c12 => ?_) (fun c12 => ?_)
                      · have f12 := (ti_eq (a := x11.toInt) (b := 0) rfl (by decide)).mp c12
                        obtain ⟨x13, ex13⟩ : ∃ y : Int32, y = y7_4 + 1 := ⟨_, rfl⟩
                        have tx13 := ti_add (a := y7_4.toInt) (b := 1) ex13 rfl (by decide) (by omega) (by omega)
                        refine lv_iinc (v := x13) (lv' := [(4, .int x13), (0, .ref o), (1, .int w1), (2, .int w2), (3, .int w3)]) hx hb dX12_isExitBarred_199 hl (k := 0) rfl (by rw [ex13]; rfl) (by decide) rfl (fun ls hl => ?_)
                        refine lv_goto (tgt := 152) hx hb dX12_isExitBarred_202 (by decide) ?_
                        exact ih i7 q7 c7 d7 x13 hI hfi hfc (by have h84 : x13.toInt = (y7_4.toInt + 1) := tx13; omega) (by have h84 : x13.toInt = (y7_4.toInt + 1) := tx13; omega) (by have h84 : x13.toInt = (y7_4.toInt + 1) := tx13; omega) _ _ _ hP hD hS (lv_sub hl [0, 1, 2, 3, 4] rfl)
                      · have f12 := mt (ti_eq (a := x11.toInt) (b := 0) rfl (by decide)).mpr c12
                        refine lv_aload_n hx hb dX12_isExitBarred_171 rfl (lv_at hl 1 rfl) ?_
                        refine va_get (D := D) (ci := 12) (v := .ref (a 9)) (C := RX12) (T := TX12) (N := 69) hx hb hts (fun _ h => List.mem_cons_of_mem _ (List.mem_append_right _ h)) hown hK hP 0 rfl rfl 9 (by decide) (hts (.fieldLink RX12 25 "TalePlayModel" "form" "[I") (by decide +kernel)) (fun _ h9 => h9) rfl dX12_isExitBarred_172 ?_
                        refine lv_iload hx hb dX12_isExitBarred_175 (lv_at hl 0 rfl) ?_
                        refine va_iald hx hb hK hP 6 5 rfl rfl (vp_in_iff.mpr (by have h9 : y7_4.toInt = y7_4.toInt := rfl; omega)) dX12_isExitBarred_177 ?_
                        refine lv_topi (fun x14 ex14 => ?_)
                        have rx14 : 0 ≤ x14.toInt ∧ x14.toInt ≤ 7 := by rw [ex14]; exact hI.2 9 _
                        refine lv_iconst (v := 5) hx hb dX12_isExitBarred_178 (by decide) ?_
                        refine lv_icmp_ne (tgt := 199) hx hb dX12_isExitBarred_179 (by decide) (fun c15 => ?_) (fun c15 => ?_)
                        · have f15 := mt (ti_eq (a := x14.toInt) (b := 5) rfl (by decide)).mpr c15
                          obtain ⟨x16, ex16⟩ : ∃ y : Int32, y = y7_4 + 1 := ⟨_, rfl⟩
                          have tx16 := ti_add (a := y7_4.toInt) (b := 1) ex16 rfl (by decide) (by omega) (by omega)
                          refine lv_iinc (v := x16) (lv' := [(4, .int x16), (0, .ref o), (1, .int w1), (2, .int w2), (3, .int w3)]) hx hb dX12_isExitBarred_199 hl (k := 0) rfl (by rw [ex16]; rfl) (by decide) rfl (fun ls hl => ?_)
                          refine lv_goto (tgt := 152) hx hb dX12_isExitBarred_202 (by decide) ?_
                          exact ih i7 q7 c7 d7 x16 hI hfi hfc (by have h84 : x16.toInt = (y7_4.toInt + 1) := tx16; omega) (by have h84 : x16.toInt = (y7_4.toInt + 1) := tx16; omega) (by have h84 : x16.toInt = (y7_4.toInt + 1) := tx16; omega) _ _ _ hP hD hS (lv_sub hl [0, 1, 2, 3, 4] rfl)
                        · have f15 := (ti_eq (a := x14.toInt) (b := 5) rfl (by decide)).mp c15
                          refine lv_aload_n hx hb dX12_isExitBarred_182 rfl (lv_at hl 1 rfl) ?_
                          refine va_get (D := D) (ci := 12) (v := .ref (a 11)) (C := RX12) (T := TX12) (N := 69) hx hb hts (fun _ h => List.mem_cons_of_mem _ (List.mem_append_right _ h)) hown hK hP 0 rfl rfl 11 (by decide) (hts (.fieldLink RX12 31 "TalePlayModel" "middle" "[I") (by decide +kernel)) (fun _ h9 => h9) rfl dX12_isExitBarred_183 ?_
                          refine lv_iload hx hb dX12_isExitBarred_186 (lv_at hl 0 rfl) ?_
                          refine va_iald hx hb hK hP 8 7 rfl rfl (vp_in_iff.mpr (by have h9 : y7_4.toInt = y7_4.toInt := rfl; omega)) dX12_isExitBarred_188 ?_
                          refine lv_topi (fun x17 ex17 => ?_)
                          have rx17 : 0 ≤ x17.toInt ∧ x17.toInt ≤ 29 := by rw [ex17]; exact hI.2 11 _
                          refine lv_iload_n hx hb dX12_isExitBarred_189 rfl (lv_at hl 3 rfl) ?_
                          refine lv_icmp_ne (tgt := 199) hx hb dX12_isExitBarred_190 (by decide) (fun c18 => ?_) (fun c18 => ?_)
                          · have f18 := mt (ti_eq (a := x17.toInt) (b := w2.toInt) rfl rfl).mpr c18
                            obtain ⟨x19, ex19⟩ : ∃ y : Int32, y = y7_4 + 1 := ⟨_, rfl⟩
                            have tx19 := ti_add (a := y7_4.toInt) (b := 1) ex19 rfl (by decide) (by omega) (by omega)
                            refine lv_iinc (v := x19) (lv' := [(4, .int x19), (0, .ref o), (1, .int w1), (2, .int w2), (3, .int w3)]) hx hb dX12_isExitBarred_199 hl (k := 0) rfl (by rw [ex19]; rfl) (by decide) rfl (fun ls hl => ?_)
                            refine lv_goto (tgt := 152) hx hb dX12_isExitBarred_202 (by decide) ?_
                            exact ih i7 q7 c7 d7 x19 hI hfi hfc (by have h84 : x19.toInt = (y7_4.toInt + 1) := tx19; omega) (by have h84 : x19.toInt = (y7_4.toInt + 1) := tx19; omega) (by have h84 : x19.toInt = (y7_4.toInt + 1) := tx19; omega) _ _ _ hP hD hS (lv_sub hl [0, 1, 2, 3, 4] rfl)
                          · have f18 := (ti_eq (a := x17.toInt) (b := w2.toInt) rfl rfl).mp c18
                            refine lv_aload_n hx hb dX12_isExitBarred_193 rfl (lv_at hl 1 rfl) ?_
                            refine lv_iload hx hb dX12_isExitBarred_194 (lv_at hl 0 rfl) ?_
                            refine al_callv (va_runV (As := [.int y7_4]) (rest := []) ⟨hx, hb, hml, hown, hts⟩ (s_X12_clashes l D H.size o a t i7 q7 c7 d7 y7_4 hI (by omega) (by omega)) (cwV 1 hts gm_X12_isExitBarred_X12_clashes rfl rfl rfl (by decide +kernel) ⟨Nat.le_of_ble_eq_true rfl, Nat.le_of_ble_eq_true rfl⟩) (pB_V hK hP hD (ci := 12) (q0 := 0) rfl rfl) rfl rfl hl.1 rfl (lv_room (Nat.le_of_ble_eq_true rfl)) dX12_isExitBarred_196 ⟨Nat.le_of_ble_eq_true rfl, Nat.le_of_ble_eq_true rfl⟩) hS hA hP hD (fun u20 H locs hw20 hP hD hS => ?_)
                            obtain ⟨i20, q20, c20, d20⟩ := u20
                            have hw20 : True ∧ mInv i20 c20 ∧ (∀ k, k ∉ ([15] : List Nat) → i20 k = i7 k) ∧ (∀ k, k ∉ ([14] : List Nat) → c20 k = c7 k) ∧ ((i20 15).toInt = (i7 15).toInt + 1) := hw20
                            obtain ⟨hw20, hI, hei20, hec20, hxp20_0⟩ := hw20
                            have hfi := fr_t hfi hei20 (by decide)
                            have hfc := fr_t hfc hec20 (by decide)
                            have hP : va_P D vwCl (mW o a t i20 q20 c20 d20) H := hP
                            have hD : va_D A (mW o a t i20 q20 c20 d20) := hD
                            obtain ⟨x21, ex21⟩ : ∃ y : Int32, y = y7_4 + 1 := ⟨_, rfl⟩
                            have tx21 := ti_add (a := y7_4.toInt) (b := 1) ex21 rfl (by decide) (by omega) (by omega)
                            refine lv_iinc (v := x21) (lv' := [(4, .int x21), (0, .ref o), (1, .int w1), (2, .int w2), (3, .int w3)]) hx hb dX12_isExitBarred_199 hl (k := 0) rfl (by rw [ex21]; rfl) (by decide) rfl (fun ls hl => ?_)
                            refine lv_goto (tgt := 152) hx hb dX12_isExitBarred_202 (by decide) ?_
                            exact ih i20 q20 c20 d20 x21 hI hfi hfc (by have h84 : x21.toInt = (y7_4.toInt + 1) := tx21; omega) (by have h84 : x21.toInt = (y7_4.toInt + 1) := tx21; omega) (by have h84 : x21.toInt = (y7_4.toInt + 1) := tx21; omega) _ _ _ hP hD hS (lv_sub hl [0, 1, 2, 3, 4] rfl)
                exact lp7 _ i q c d (0 : Int32) hI hfi hfc (by have h84 : (0 : Int32).toInt = 0 := (by decide); omega) (by have h84 : (0 : Int32).toInt = 0 := (by decide); omega) (Nat.lt_succ_self _) _ _ _ hP hD hS (lv_sub hl [0, 1, 2, 3, 4] rfl)
              · have f6 := mt (ti_le (a := (i 8).toInt) (b := y5_4.toInt) rfl rfl).mpr c6
                refine lv_aload_n hx hb dX12_isExitBarred_92 rfl (lv_at hl 1 rfl) ?_
                refine va_get (D := D) (ci := 12) (v := .ref (a 13)) (C := RX12) (T := TX12) (N := 69) hx hb hts (fun _ h => List.mem_cons_of_mem _ (List.mem_append_right _ h)) hown hK hP 0 rfl rfl 13 (by decide) (hts (.fieldLink RX12 37 "TalePlayModel" "isSaid" "[Z") (by decide +kernel)) (fun _ h9 => h9) rfl dX12_isExitBarred_93 ?_
                refine lv_iload hx hb dX12_isExitBarred_96 (lv_at hl 0 rfl) ?_
                refine va_zald hx hb hK hP 10 9 rfl rfl (vp_in_iff.mpr (by have h9 : y5_4.toInt = y5_4.toInt := rfl; omega)) dX12_isExitBarred_98 ?_
                refine lv_topi (fun x22 ex22 => ?_)
                have rx22 : 0 ≤ x22.toInt ∧ x22.toInt ≤ 1 := by rw [ex22]; exact hI.2 13 _
                refine lv_if_eq (tgt := 143) hx hb dX12_isExitBarred_99 (by decide) (fun c23 => ?_) (fun c23 => ?_)
                · have f23 := (ti_eq (a := x22.toInt) (b := 0) rfl (by decide)).mp c23
                  obtain ⟨x24, ex24⟩ : ∃ y : Int32, y = y5_4 + 1 := ⟨_, rfl⟩
                  have tx24 := ti_add (a := y5_4.toInt) (b := 1) ex24 rfl (by decide) (by omega) (by omega)
                  refine lv_iinc (v := x24) (lv' := [(4, .int x24), (0, .ref o), (1, .int w1), (2, .int w2), (3, .int w3)]) hx hb dX12_isExitBarred_143 hl (k := 0) rfl (by rw [ex24]; rfl) (by decide) rfl (fun ls hl => ?_)
                  refine lv_goto (tgt := 83) hx hb dX12_isExitBarred_146 (by decide) ?_
                  exact ih x24 (by have h84 : x24.toInt = (y5_4.toInt + 1) := tx24; omega) (by have h84 : x24.toInt = (y5_4.toInt + 1) := tx24; omega) _ _ _ hP hD hS (lv_sub hl [0, 1, 2, 3, 4] rfl)
                · have f23 := mt (ti_eq (a := x22.toInt) (b := 0) rfl (by decide)).mpr c23
                  refine lv_aload_n hx hb dX12_isExitBarred_102 rfl (lv_at hl 1 rfl) ?_
                  refine va_get (D := D) (ci := 12) (v := .ref (a 9)) (C := RX12) (T := TX12) (N := 69) hx hb hts (fun _ h => List.mem_cons_of_mem _ (List.mem_append_right _ h)) hown hK hP 0 rfl rfl 9 (by decide) (hts (.fieldLink RX12 25 "TalePlayModel" "form" "[I") (by decide +kernel)) (fun _ h9 => h9) rfl dX12_isExitBarred_103 ?_
                  refine lv_iload hx hb dX12_isExitBarred_106 (lv_at hl 0 rfl) ?_
                  refine va_iald hx hb hK hP 6 5 rfl rfl (vp_in_iff.mpr (by have h9 : y5_4.toInt = y5_4.toInt := rfl; omega)) dX12_isExitBarred_108 ?_
                  refine lv_topi (fun x25 ex25 => ?_)
                  have rx25 : 0 ≤ x25.toInt ∧ x25.toInt ≤ 7 := by rw [ex25]; exact hI.2 9 _
                  refine lv_iconst (v := 5) hx hb dX12_isExitBarred_109 (by decide) ?_
                  refine lv_icmp_ne (tgt := 143) hx hb dX12_isExitBarred_110 (by decide) (fun c26 => ?_) (fun c26 => ?_)
                  · have f26 := mt (ti_eq (a := x25.toInt) (b := 5) rfl (by decide)).mpr c26
                    obtain ⟨x27, ex27⟩ : ∃ y : Int32, y = y5_4 + 1 := ⟨_, rfl⟩
                    have tx27 := ti_add (a := y5_4.toInt) (b := 1) ex27 rfl (by decide) (by omega) (by omega)
                    refine lv_iinc (v := x27) (lv' := [(4, .int x27), (0, .ref o), (1, .int w1), (2, .int w2), (3, .int w3)]) hx hb dX12_isExitBarred_143 hl (k := 0) rfl (by rw [ex27]; rfl) (by decide) rfl (fun ls hl => ?_)
                    refine lv_goto (tgt := 83) hx hb dX12_isExitBarred_146 (by decide) ?_
                    exact ih x27 (by have h84 : x27.toInt = (y5_4.toInt + 1) := tx27; omega) (by have h84 : x27.toInt = (y5_4.toInt + 1) := tx27; omega) _ _ _ hP hD hS (lv_sub hl [0, 1, 2, 3, 4] rfl)
                  · have f26 := (ti_eq (a := x25.toInt) (b := 5) rfl (by decide)).mp c26
                    refine lv_aload_n hx hb dX12_isExitBarred_113 rfl (lv_at hl 1 rfl) ?_
                    refine va_get (D := D) (ci := 12) (v := .ref (a 10)) (C := RX12) (T := TX12) (N := 69) hx hb hts (fun _ h => List.mem_cons_of_mem _ (List.mem_append_right _ h)) hown hK hP 0 rfl rfl 10 (by decide) (hts (.fieldLink RX12 28 "TalePlayModel" "left" "[I") (by decide +kernel)) (fun _ h9 => h9) rfl dX12_isExitBarred_114 ?_
                    refine lv_iload hx hb dX12_isExitBarred_117 (lv_at hl 0 rfl) ?_
                    refine va_iald hx hb hK hP 7 6 rfl rfl (vp_in_iff.mpr (by have h9 : y5_4.toInt = y5_4.toInt := rfl; omega)) dX12_isExitBarred_119 ?_
                    refine lv_topi (fun x28 ex28 => ?_)
                    have rx28 : 0 ≤ x28.toInt ∧ x28.toInt ≤ 29 := by rw [ex28]; exact hI.2 10 _
                    refine lv_iload_n hx hb dX12_isExitBarred_120 rfl (lv_at hl 2 rfl) ?_
                    refine lv_icmp_ne (tgt := 143) hx hb dX12_isExitBarred_121 (by decide) (fun c29 => ?_) (fun c29 => ?_)
                    · have f29 := mt (ti_eq (a := x28.toInt) (b := w1.toInt) rfl rfl).mpr c29
                      obtain ⟨x30, ex30⟩ : ∃ y : Int32, y = y5_4 + 1 := ⟨_, rfl⟩
                      have tx30 := ti_add (a := y5_4.toInt) (b := 1) ex30 rfl (by decide) (by omega) (by omega)
                      refine lv_iinc (v := x30) (lv' := [(4, .int x30), (0, .ref o), (1, .int w1), (2, .int w2), (3, .int w3)]) hx hb dX12_isExitBarred_143 hl (k := 0) rfl (by rw [ex30]; rfl) (by decide) rfl (fun ls hl => ?_)
                      refine lv_goto (tgt := 83) hx hb dX12_isExitBarred_146 (by decide) ?_
                      exact ih x30 (by have h84 : x30.toInt = (y5_4.toInt + 1) := tx30; omega) (by have h84 : x30.toInt = (y5_4.toInt + 1) := tx30; omega) _ _ _ hP hD hS (lv_sub hl [0, 1, 2, 3, 4] rfl)
                    · have f29 := (ti_eq (a := x28.toInt) (b := w1.toInt) rfl rfl).mp c29
                      refine lv_aload_n hx hb dX12_isExitBarred_124 rfl (lv_at hl 1 rfl) ?_
                      refine va_get (D := D) (ci := 12) (v := .ref (a 11)) (C := RX12) (T := TX12) (N := 69) hx hb hts (fun _ h => List.mem_cons_of_mem _ (List.mem_append_right _ h)) hown hK hP 0 rfl rfl 11 (by decide) (hts (.fieldLink RX12 31 "TalePlayModel" "middle" "[I") (by decide +kernel)) (fun _ h9 => h9) rfl dX12_isExitBarred_125 ?_
                      refine lv_iload hx hb dX12_isExitBarred_128 (lv_at hl 0 rfl) ?_
                      refine va_iald hx hb hK hP 8 7 rfl rfl (vp_in_iff.mpr (by have h9 : y5_4.toInt = y5_4.toInt := rfl; omega)) dX12_isExitBarred_130 ?_
                      refine lv_topi (fun x31 ex31 => ?_)
                      have rx31 : 0 ≤ x31.toInt ∧ x31.toInt ≤ 29 := by rw [ex31]; exact hI.2 11 _
                      refine lv_iload_n hx hb dX12_isExitBarred_131 rfl (lv_at hl 3 rfl) ?_
                      refine lv_icmp_ne (tgt := 143) hx hb dX12_isExitBarred_132 (by decide) (fun c32 => ?_) (fun c32 => ?_)
                      · have f32 := mt (ti_eq (a := x31.toInt) (b := w2.toInt) rfl rfl).mpr c32
                        obtain ⟨x33, ex33⟩ : ∃ y : Int32, y = y5_4 + 1 := ⟨_, rfl⟩
                        have tx33 := ti_add (a := y5_4.toInt) (b := 1) ex33 rfl (by decide) (by omega) (by omega)
                        refine lv_iinc (v := x33) (lv' := [(4, .int x33), (0, .ref o), (1, .int w1), (2, .int w2), (3, .int w3)]) hx hb dX12_isExitBarred_143 hl (k := 0) rfl (by rw [ex33]; rfl) (by decide) rfl (fun ls hl => ?_)
                        refine lv_goto (tgt := 83) hx hb dX12_isExitBarred_146 (by decide) ?_
                        exact ih x33 (by have h84 : x33.toInt = (y5_4.toInt + 1) := tx33; omega) (by have h84 : x33.toInt = (y5_4.toInt + 1) := tx33; omega) _ _ _ hP hD hS (lv_sub hl [0, 1, 2, 3, 4] rfl)
                      · have f32 := (ti_eq (a := x31.toInt) (b := w2.toInt) rfl rfl).mp c32
                        refine lv_aload_n hx hb dX12_isExitBarred_135 rfl (lv_at hl 1 rfl) ?_
                        refine lv_iload hx hb dX12_isExitBarred_136 (lv_at hl 0 rfl) ?_
                        refine al_callv (va_runV (As := [.int y5_4]) (rest := []) ⟨hx, hb, hml, hown, hts⟩ (s_X12_clashes l D H.size o a t i q c d y5_4 hI (by omega) (by omega)) (cwV 1 hts gm_X12_isExitBarred_X12_clashes rfl rfl rfl (by decide +kernel) ⟨Nat.le_of_ble_eq_true rfl, Nat.le_of_ble_eq_true rfl⟩) (pB_V hK hP hD (ci := 12) (q0 := 0) rfl rfl) rfl rfl hl.1 rfl (lv_room (Nat.le_of_ble_eq_true rfl)) dX12_isExitBarred_138 ⟨Nat.le_of_ble_eq_true rfl, Nat.le_of_ble_eq_true rfl⟩) hS hA hP hD (fun u34 H locs hw34 hP hD hS => ?_)
                        obtain ⟨i34, q34, c34, d34⟩ := u34
                        have hw34 : True ∧ mInv i34 c34 ∧ (∀ k, k ∉ ([15] : List Nat) → i34 k = i k) ∧ (∀ k, k ∉ ([14] : List Nat) → c34 k = c k) ∧ ((i34 15).toInt = (i 15).toInt + 1) := hw34
                        obtain ⟨hw34, hI, hei34, hec34, hxp34_0⟩ := hw34
                        have hfi := fr_t hfi hei34 (by decide)
                        have hfc := fr_t hfc hec34 (by decide)
                        have hP : va_P D vwCl (mW o a t i34 q34 c34 d34) H := hP
                        have hD : va_D A (mW o a t i34 q34 c34 d34) := hD
                        refine lv_iconst (v := 1) hx hb dX12_isExitBarred_141 (by decide) ?_
                        exact rw_zret (i34, q34, c34, d34) hx hb hr hlocks hS (hK.sub (tys' := []) [] rfl) hP hD rfl dX12_isExitBarred_142 ⟨(show 0 ≤ (1 : Int32).toInt ∧ (1 : Int32).toInt ≤ 1 from by decide), hI, hfi, hfc⟩
          exact lp5 _ (0 : Int32) (by have h84 : (0 : Int32).toInt = 0 := (by decide); omega) (Nat.lt_succ_self _) _ _ _ hP hD hS (lv_sub hl [0, 1, 2, 3, 4] rfl)
        · have f4 := (ti_eq (a := r3.toInt) (b := 0) rfl (by decide)).mp c4
          refine lv_iconst (v := 0) hx hb dX12_isExitBarred_78 (by decide) ?_
          exact rw_zret (i, q, c, d) hx hb hr hlocks hS (hK.sub (tys' := []) [] rfl) hP hD rfl dX12_isExitBarred_79 ⟨(show 0 ≤ (0 : Int32).toInt ∧ (0 : Int32).toInt ≤ 1 from by decide), hI, hfi, hfc⟩
      · have f2 := mt (ti_le (a := (i 8).toInt) (b := y1_4.toInt) rfl rfl).mpr c2
        refine lv_aload_n hx hb dX12_isExitBarred_12 rfl (lv_at hl 1 rfl) ?_
        refine va_get (D := D) (ci := 12) (v := .ref (a 13)) (C := RX12) (T := TX12) (N := 69) hx hb hts (fun _ h => List.mem_cons_of_mem _ (List.mem_append_right _ h)) hown hK hP 0 rfl rfl 13 (by decide) (hts (.fieldLink RX12 37 "TalePlayModel" "isSaid" "[Z") (by decide +kernel)) (fun _ h9 => h9) rfl dX12_isExitBarred_13 ?_
        refine lv_iload hx hb dX12_isExitBarred_16 (lv_at hl 0 rfl) ?_
        refine va_zald hx hb hK hP 10 9 rfl rfl (vp_in_iff.mpr (by have h9 : y1_4.toInt = y1_4.toInt := rfl; omega)) dX12_isExitBarred_18 ?_
        refine lv_topi (fun x35 ex35 => ?_)
        have rx35 : 0 ≤ x35.toInt ∧ x35.toInt ≤ 1 := by rw [ex35]; exact hI.2 13 _
        refine lv_if_eq (tgt := 63) hx hb dX12_isExitBarred_19 (by decide) (fun c36 => ?_) (fun c36 => ?_)
        · have f36 := (ti_eq (a := x35.toInt) (b := 0) rfl (by decide)).mp c36
          obtain ⟨x37, ex37⟩ : ∃ y : Int32, y = y1_4 + 1 := ⟨_, rfl⟩
          have tx37 := ti_add (a := y1_4.toInt) (b := 1) ex37 rfl (by decide) (by omega) (by omega)
          refine lv_iinc (v := x37) (lv' := [(4, .int x37), (0, .ref o), (1, .int w1), (2, .int w2), (3, .int w3)]) hx hb dX12_isExitBarred_63 hl (k := 0) rfl (by rw [ex37]; rfl) (by decide) rfl (fun ls hl => ?_)
          refine lv_goto (tgt := 3) hx hb dX12_isExitBarred_66 (by decide) ?_
          exact ih x37 (by have h84 : x37.toInt = (y1_4.toInt + 1) := tx37; omega) (by have h84 : x37.toInt = (y1_4.toInt + 1) := tx37; omega) _ _ _ hP hD hS (lv_sub hl [0, 1, 2, 3, 4] rfl)
        · have f36 := mt (ti_eq (a := x35.toInt) (b := 0) rfl (by decide)).mpr c36
          refine lv_aload_n hx hb dX12_isExitBarred_22 rfl (lv_at hl 1 rfl) ?_
          refine va_get (D := D) (ci := 12) (v := .ref (a 9)) (C := RX12) (T := TX12) (N := 69) hx hb hts (fun _ h => List.mem_cons_of_mem _ (List.mem_append_right _ h)) hown hK hP 0 rfl rfl 9 (by decide) (hts (.fieldLink RX12 25 "TalePlayModel" "form" "[I") (by decide +kernel)) (fun _ h9 => h9) rfl dX12_isExitBarred_23 ?_
          refine lv_iload hx hb dX12_isExitBarred_26 (lv_at hl 0 rfl) ?_
          refine va_iald hx hb hK hP 6 5 rfl rfl (vp_in_iff.mpr (by have h9 : y1_4.toInt = y1_4.toInt := rfl; omega)) dX12_isExitBarred_28 ?_
          refine lv_topi (fun x38 ex38 => ?_)
          have rx38 : 0 ≤ x38.toInt ∧ x38.toInt ≤ 7 := by rw [ex38]; exact hI.2 9 _
          refine lv_iconst (v := 5) hx hb dX12_isExitBarred_29 (by decide) ?_
          refine lv_icmp_ne (tgt := 63) hx hb dX12_isExitBarred_30 (by decide) (fun c39 => ?_) (fun c39 => ?_)
          · have f39 := mt (ti_eq (a := x38.toInt) (b := 5) rfl (by decide)).mpr c39
            obtain ⟨x40, ex40⟩ : ∃ y : Int32, y = y1_4 + 1 := ⟨_, rfl⟩
            have tx40 := ti_add (a := y1_4.toInt) (b := 1) ex40 rfl (by decide) (by omega) (by omega)
            refine lv_iinc (v := x40) (lv' := [(4, .int x40), (0, .ref o), (1, .int w1), (2, .int w2), (3, .int w3)]) hx hb dX12_isExitBarred_63 hl (k := 0) rfl (by rw [ex40]; rfl) (by decide) rfl (fun ls hl => ?_)
            refine lv_goto (tgt := 3) hx hb dX12_isExitBarred_66 (by decide) ?_
            exact ih x40 (by have h84 : x40.toInt = (y1_4.toInt + 1) := tx40; omega) (by have h84 : x40.toInt = (y1_4.toInt + 1) := tx40; omega) _ _ _ hP hD hS (lv_sub hl [0, 1, 2, 3, 4] rfl)
          · have f39 := (ti_eq (a := x38.toInt) (b := 5) rfl (by decide)).mp c39
            refine lv_aload_n hx hb dX12_isExitBarred_33 rfl (lv_at hl 1 rfl) ?_
            refine va_get (D := D) (ci := 12) (v := .ref (a 10)) (C := RX12) (T := TX12) (N := 69) hx hb hts (fun _ h => List.mem_cons_of_mem _ (List.mem_append_right _ h)) hown hK hP 0 rfl rfl 10 (by decide) (hts (.fieldLink RX12 28 "TalePlayModel" "left" "[I") (by decide +kernel)) (fun _ h9 => h9) rfl dX12_isExitBarred_34 ?_
            refine lv_iload hx hb dX12_isExitBarred_37 (lv_at hl 0 rfl) ?_
            refine va_iald hx hb hK hP 7 6 rfl rfl (vp_in_iff.mpr (by have h9 : y1_4.toInt = y1_4.toInt := rfl; omega)) dX12_isExitBarred_39 ?_
            refine lv_topi (fun x41 ex41 => ?_)
            have rx41 : 0 ≤ x41.toInt ∧ x41.toInt ≤ 29 := by rw [ex41]; exact hI.2 10 _
            refine lv_iload_n hx hb dX12_isExitBarred_40 rfl (lv_at hl 2 rfl) ?_
            refine lv_icmp_ne (tgt := 63) hx hb dX12_isExitBarred_41 (by decide) (fun c42 => ?_) (fun c42 => ?_)
            · have f42 := mt (ti_eq (a := x41.toInt) (b := w1.toInt) rfl rfl).mpr c42
              obtain ⟨x43, ex43⟩ : ∃ y : Int32, y = y1_4 + 1 := ⟨_, rfl⟩
              have tx43 := ti_add (a := y1_4.toInt) (b := 1) ex43 rfl (by decide) (by omega) (by omega)
              refine lv_iinc (v := x43) (lv' := [(4, .int x43), (0, .ref o), (1, .int w1), (2, .int w2), (3, .int w3)]) hx hb dX12_isExitBarred_63 hl (k := 0) rfl (by rw [ex43]; rfl) (by decide) rfl (fun ls hl => ?_)
              refine lv_goto (tgt := 3) hx hb dX12_isExitBarred_66 (by decide) ?_
              exact ih x43 (by have h84 : x43.toInt = (y1_4.toInt + 1) := tx43; omega) (by have h84 : x43.toInt = (y1_4.toInt + 1) := tx43; omega) _ _ _ hP hD hS (lv_sub hl [0, 1, 2, 3, 4] rfl)
            · have f42 := (ti_eq (a := x41.toInt) (b := w1.toInt) rfl rfl).mp c42
              refine lv_aload_n hx hb dX12_isExitBarred_44 rfl (lv_at hl 1 rfl) ?_
              refine va_get (D := D) (ci := 12) (v := .ref (a 12)) (C := RX12) (T := TX12) (N := 69) hx hb hts (fun _ h => List.mem_cons_of_mem _ (List.mem_append_right _ h)) hown hK hP 0 rfl rfl 12 (by decide) (hts (.fieldLink RX12 34 "TalePlayModel" "right" "[I") (by decide +kernel)) (fun _ h9 => h9) rfl dX12_isExitBarred_45 ?_
              refine lv_iload hx hb dX12_isExitBarred_48 (lv_at hl 0 rfl) ?_
              refine va_iald hx hb hK hP 9 8 rfl rfl (vp_in_iff.mpr (by have h9 : y1_4.toInt = y1_4.toInt := rfl; omega)) dX12_isExitBarred_50 ?_
              refine lv_topi (fun x44 ex44 => ?_)
              have rx44 : 0 ≤ x44.toInt ∧ x44.toInt ≤ 9 := by rw [ex44]; exact hI.2 12 _
              refine lv_iload_n hx hb dX12_isExitBarred_51 rfl (lv_at hl 4 rfl) ?_
              refine lv_icmp_ne (tgt := 63) hx hb dX12_isExitBarred_52 (by decide) (fun c45 => ?_) (fun c45 => ?_)
              · have f45 := mt (ti_eq (a := x44.toInt) (b := w3.toInt) rfl rfl).mpr c45
                obtain ⟨x46, ex46⟩ : ∃ y : Int32, y = y1_4 + 1 := ⟨_, rfl⟩
                have tx46 := ti_add (a := y1_4.toInt) (b := 1) ex46 rfl (by decide) (by omega) (by omega)
                refine lv_iinc (v := x46) (lv' := [(4, .int x46), (0, .ref o), (1, .int w1), (2, .int w2), (3, .int w3)]) hx hb dX12_isExitBarred_63 hl (k := 0) rfl (by rw [ex46]; rfl) (by decide) rfl (fun ls hl => ?_)
                refine lv_goto (tgt := 3) hx hb dX12_isExitBarred_66 (by decide) ?_
                exact ih x46 (by have h84 : x46.toInt = (y1_4.toInt + 1) := tx46; omega) (by have h84 : x46.toInt = (y1_4.toInt + 1) := tx46; omega) _ _ _ hP hD hS (lv_sub hl [0, 1, 2, 3, 4] rfl)
              · have f45 := (ti_eq (a := x44.toInt) (b := w3.toInt) rfl rfl).mp c45
                refine lv_aload_n hx hb dX12_isExitBarred_55 rfl (lv_at hl 1 rfl) ?_
                refine lv_iload hx hb dX12_isExitBarred_56 (lv_at hl 0 rfl) ?_
                refine al_callv (va_runV (As := [.int y1_4]) (rest := []) ⟨hx, hb, hml, hown, hts⟩ (s_X12_clashes l D H.size o a t i q c d y1_4 hI (by omega) (by omega)) (cwV 1 hts gm_X12_isExitBarred_X12_clashes rfl rfl rfl (by decide +kernel) ⟨Nat.le_of_ble_eq_true rfl, Nat.le_of_ble_eq_true rfl⟩) (pB_V hK hP hD (ci := 12) (q0 := 0) rfl rfl) rfl rfl hl.1 rfl (lv_room (Nat.le_of_ble_eq_true rfl)) dX12_isExitBarred_58 ⟨Nat.le_of_ble_eq_true rfl, Nat.le_of_ble_eq_true rfl⟩) hS hA hP hD (fun u47 H locs hw47 hP hD hS => ?_)
                obtain ⟨i47, q47, c47, d47⟩ := u47
                have hw47 : True ∧ mInv i47 c47 ∧ (∀ k, k ∉ ([15] : List Nat) → i47 k = i k) ∧ (∀ k, k ∉ ([14] : List Nat) → c47 k = c k) ∧ ((i47 15).toInt = (i 15).toInt + 1) := hw47
                obtain ⟨hw47, hI, hei47, hec47, hxp47_0⟩ := hw47
                have hfi := fr_t hfi hei47 (by decide)
                have hfc := fr_t hfc hec47 (by decide)
                have hP : va_P D vwCl (mW o a t i47 q47 c47 d47) H := hP
                have hD : va_D A (mW o a t i47 q47 c47 d47) := hD
                refine lv_iconst (v := 1) hx hb dX12_isExitBarred_61 (by decide) ?_
                exact rw_zret (i47, q47, c47, d47) hx hb hr hlocks hS (hK.sub (tys' := []) [] rfl) hP hD rfl dX12_isExitBarred_62 ⟨(show 0 ≤ (1 : Int32).toInt ∧ (1 : Int32).toInt ≤ 1 from by decide), hI, hfi, hfc⟩
  exact lp1 _ (0 : Int32) (by have h84 : (0 : Int32).toInt = 0 := (by decide); omega) (Nat.lt_succ_self _) _ _ _ hP hD hS (lv_sub hl [0, 1, 2, 3, 4] rfl)

def wm_X12_isKeyBarred : List Cond := .code yX12_isKeyBarred cX12_isKeyBarred 3 (some .boolean) :: (([.fieldLink RX12 202 "TalePlayModel" "sentences" "I", .fieldLink RX12 205 "TalePlayModel" "rowMany" "I", .fieldLink RX12 37 "TalePlayModel" "isSaid" "[Z", .fieldLink RX12 25 "TalePlayModel" "form" "[I", .fieldLink RX12 31 "TalePlayModel" "middle" "[I", .methodLink RX12 212 yX12_clashes, .instanceMethod yX12_clashes, .selects RX12 yX12_clashes yX12_clashes, .initialized RX12, .code yX12_clashes cX12_clashes 2 none, .fieldLink RX12 41 "TalePlayModel" "row" "[I"] : List Cond) ++ wsX120)
set_option maxRecDepth 20000 in
theorem gm_X12_isKeyBarred_X12_clashes : GoodIn wm_X12_isKeyBarred (wsV RX12 212 RX12 yX12_clashes wm_X12_clashes) := goodIn_app (goodIn_of _ (by decide +kernel)) (goodIn_r _ [10, 11, 2, 12, 13, 14, 15, 16, 17, 18, 19, 20, 21, 22, 23, 24, 25, 26, 27, 28, 29, 30, 31, 32, 33, 34, 35, 36, 37, 38, 39, 40, 41, 42, 43, 44, 45, 46, 47, 48, 49, 50, 51, 52, 53, 54, 55, 56, 57, 58, 59, 60, 61, 62, 63, 64, 65, 66, 67, 68, 69, 70, 71, 72, 73, 74, 75, 76, 77, 78, 79, 80] (by decide +kernel) (by decide +kernel))
set_option maxHeartbeats 4000000 in
set_option maxRecDepth 100000 in
theorem s_X12_isKeyBarred (l : Launch) (D : va_G) (sz : Nat) (o : Nat) (a : Nat → Nat) (t : Nat → ClassId) (i : Nat → Int32) (q : Int64) (c : Nat → Nat → Int32) (d : Nat → Nat → Int64) (w2 : Int32) (hI : mInv i c) (hw2 : 0 ≤ w2.toInt ∧ w2.toInt ≤ 29) (hrm : (i 15).toInt = 0) : Met l yX12_isKeyBarred wm_X12_isKeyBarred ({ frames := 1, cells := 0, slots := 0, locals := 21 }) (va_Pc [.ref o, .int w2] (pB D sz (mW o a t i q c d) (mT t))) (va_Qi (fun (r : Int32) (u : MS) => (0 ≤ r.toInt ∧ r.toInt ≤ 1) ∧ mInv u.1 u.2.2.1 ∧ (∀ k, k ∉ ([15] : List Nat) → u.1 k = i k) ∧ (∀ k, k ∉ ([14] : List Nat) → u.2.2.1 k = c k)) (oC D (va_A (mW o a t i q c d) sz) (fun u : MS => mW o a t u.1 u.2.1 u.2.2.1 u.2.2.2) (fun _ => [])) (va_A (mW o a t i q c d) sz)) 0 0 (va_A (mW o a t i q c d) sz) := by
  refine Met.ofW (cc := cX12_isKeyBarred) (maxL := 3) (ret := (some .boolean)) (by decide) rfl ?_
  intro p e s m args below meth cd s₁ B hml hv
  obtain ⟨rfl, hsz, hP, hK, hD0⟩ := hv
  have hx := B.exec
  have hb := B.bytes
  have hr := B.returns
  have hts := atoms_spec (ws := wm_X12_isKeyBarred) B.pre
  have hown : s.vm.findClass RX12 = some m.cls := findClass_of_methodNamed B.named
  have hlocks := B.notSynchronized
  subst hsz
  have hD := hD0.self (sz := s.heap.size)
  generalize hAe : va_A (mW o a t i q c d) s.heap.size = A at hD ⊢
  have hA : ∀ q : Nat, s.heap.size ≤ q → A q := fun q h => by rw [← hAe]; exact Or.inr h
  have hS : va_S A s.heap s.heap [] := va_S.rf
  have hfi : ∀ k, k ∉ ([15] : List Nat) → i k = i k := fun _ _ => rfl
  have hfc : ∀ k, k ∉ ([14] : List Nat) → c k = c k := fun _ _ => rfl
  have hl := lv_entry ([.ref o, .int w2]) (n := 3) (Nat.le_of_ble_eq_true rfl)
  rw [lg_entry_eq]
  generalize (lg_sl ([.ref o, .int w2]) ++ List.replicate (3 - (lg_sl ([.ref o, .int w2])).length) Slot.unset).toArray = ls at hl ⊢
  have hl : lv_has ls 3 [(0, .ref o), (1, .int w2)] := hl
  refine lv_iconst (v := 0) hx hb dX12_isKeyBarred_0 (by decide) ?_
  refine lv_istore_n (lv' := [(2, .int 0), (0, .ref o), (1, .int w2)]) hx hb dX12_isKeyBarred_1 rfl hl (by decide) rfl (fun ls hl => ?_)
  have lp1 : ∀ (fu : Nat) (i1 : Nat → Int32) (q1 : Int64) (c1 : Nat → Nat → Int32) (d1 : Nat → Nat → Int64) (y1_2 : Int32), mInv i1 c1 → (∀ k, k ∉ ([15] : List Nat) → i1 k = i k) → (∀ k, k ∉ ([14] : List Nat) → c1 k = c k) → (0 ≤ y1_2.toInt ∧ y1_2.toInt ≤ 200) → ((i1 15).toInt ≤ y1_2.toInt) → (200 - y1_2.toInt).toNat < fu → ∀ (H : Heap) (locs : List Loc) (ls : Array Slot), va_P D vwCl (mW o a t i1 q1 c1 d1) H → va_D A (mW o a t i1 q1 c1 d1) → va_S A s.heap H locs → lv_has ls 3 [(2, .int y1_2), (0, .ref o), (1, .int w2)] → W p l e (headSpec wm_X12_isKeyBarred ({ frames := 1, cells := 0, slots := 0, locals := 21 })).room s m ([.ref o, .int w2] : List Value).toArray below meth cd H locs 0 0 (MQ below (va_Qi (fun (r : Int32) (u : MS) => (0 ≤ r.toInt ∧ r.toInt ≤ 1) ∧ mInv u.1 u.2.2.1 ∧ (∀ k, k ∉ ([15] : List Nat) → u.1 k = i k) ∧ (∀ k, k ∉ ([14] : List Nat) → u.2.2.1 k = c k)) (oC D A (fun u : MS => mW o a t u.1 u.2.1 u.2.2.1 u.2.2.2) (fun _ => [])) A) ([.ref o, .int w2] : List Value).toArray s 0 0 A) (F0 m 2 ls []) := by
    intro fu
    induction fu with
    | zero => intro i1 q1 c1 d1 y1_2 hI hfi hfc hy1_2 hz1_0 hm; exact absurd hm (Nat.not_lt_zero _)
    | succ fu ih =>
      intro i1 q1 c1 d1 y1_2 hI hfi hfc hy1_2 hz1_0 hm H locs ls hP hD hS hl
      refine lv_iload_n hx hb dX12_isKeyBarred_2 rfl (lv_at hl 0 rfl) ?_
      refine lv_aload_n hx hb dX12_isKeyBarred_3 rfl (lv_at hl 1 rfl) ?_
      refine va_get (D := D) (ci := 12) (v := .int (i1 8)) (C := RX12) (T := TX12) (N := 69) hx hb hts (fun _ h => List.mem_cons_of_mem _ (List.mem_append_right _ h)) hown hK hP 0 rfl rfl 8 (by decide) (hts (.fieldLink RX12 202 "TalePlayModel" "sentences" "I") (by decide +kernel)) (fun _ h9 => h9) rfl dX12_isKeyBarred_4 ?_
      have rb8_i1 : 0 ≤ (i1 8).toInt ∧ (i1 8).toInt ≤ 200 := hI.1 8
      refine lv_icmp_ge (tgt := 51) hx hb dX12_isKeyBarred_7 (by decide) (fun c2 => ?_) (fun c2 => ?_)
      · have f2 := (ti_le (a := (i1 8).toInt) (b := y1_2.toInt) rfl rfl).mp c2
        refine lv_aload_n hx hb dX12_isKeyBarred_51 rfl (lv_at hl 1 rfl) ?_
        refine va_get (D := D) (ci := 12) (v := .int (i1 15)) (C := RX12) (T := TX12) (N := 69) hx hb hts (fun _ h => List.mem_cons_of_mem _ (List.mem_append_right _ h)) hown hK hP 0 rfl rfl 15 (by decide) (hts (.fieldLink RX12 205 "TalePlayModel" "rowMany" "I") (by decide +kernel)) (fun _ h9 => h9) rfl dX12_isKeyBarred_52 ?_
        have rb15_i1 : 0 ≤ (i1 15).toInt ∧ (i1 15).toInt ≤ 200 := hI.1 15
        refine lv_if_le (tgt := 62) hx hb dX12_isKeyBarred_55 (by decide) (fun c3 => ?_) (fun c3 => ?_)
        · have f3 := (ti_le (a := (i1 15).toInt) (b := 0) rfl (by decide)).mp c3
          refine lv_iconst (v := 0) hx hb dX12_isKeyBarred_62 (by decide) ?_
          exact rw_zret (i1, q1, c1, d1) hx hb hr hlocks hS (hK.sub (tys' := []) [] rfl) hP hD rfl dX12_isKeyBarred_63 ⟨(show 0 ≤ (0 : Int32).toInt ∧ (0 : Int32).toInt ≤ 1 from by decide), hI, hfi, hfc⟩
        · have f3 := mt (ti_le (a := (i1 15).toInt) (b := 0) rfl (by decide)).mpr c3
          refine lv_iconst (v := 1) hx hb dX12_isKeyBarred_58 (by decide) ?_
          refine lv_goto (tgt := 63) hx hb dX12_isKeyBarred_59 (by decide) ?_
          exact rw_zret (i1, q1, c1, d1) hx hb hr hlocks hS (hK.sub (tys' := []) [] rfl) hP hD rfl dX12_isKeyBarred_63 ⟨(show 0 ≤ (1 : Int32).toInt ∧ (1 : Int32).toInt ≤ 1 from by decide), hI, hfi, hfc⟩
      · have f2 := mt (ti_le (a := (i1 8).toInt) (b := y1_2.toInt) rfl rfl).mpr c2
        refine lv_aload_n hx hb dX12_isKeyBarred_10 rfl (lv_at hl 1 rfl) ?_
        refine va_get (D := D) (ci := 12) (v := .ref (a 13)) (C := RX12) (T := TX12) (N := 69) hx hb hts (fun _ h => List.mem_cons_of_mem _ (List.mem_append_right _ h)) hown hK hP 0 rfl rfl 13 (by decide) (hts (.fieldLink RX12 37 "TalePlayModel" "isSaid" "[Z") (by decide +kernel)) (fun _ h9 => h9) rfl dX12_isKeyBarred_11 ?_
        refine lv_iload_n hx hb dX12_isKeyBarred_14 rfl (lv_at hl 0 rfl) ?_
        refine va_zald hx hb hK hP 10 9 rfl rfl (vp_in_iff.mpr (by have h9 : y1_2.toInt = y1_2.toInt := rfl; omega)) dX12_isKeyBarred_15 ?_
        refine lv_topi (fun x4 ex4 => ?_)
        have rx4 : 0 ≤ x4.toInt ∧ x4.toInt ≤ 1 := by rw [ex4]; exact hI.2 13 _
        refine lv_if_eq (tgt := 45) hx hb dX12_isKeyBarred_16 (by decide) (fun c5 => ?_) (fun c5 => ?_)
        · have f5 := (ti_eq (a := x4.toInt) (b := 0) rfl (by decide)).mp c5
          obtain ⟨x6, ex6⟩ : ∃ y : Int32, y = y1_2 + 1 := ⟨_, rfl⟩
          have tx6 := ti_add (a := y1_2.toInt) (b := 1) ex6 rfl (by decide) (by omega) (by omega)
          refine lv_iinc (v := x6) (lv' := [(2, .int x6), (0, .ref o), (1, .int w2)]) hx hb dX12_isKeyBarred_45 hl (k := 0) rfl (by rw [ex6]; rfl) (by decide) rfl (fun ls hl => ?_)
          refine lv_goto (tgt := 2) hx hb dX12_isKeyBarred_48 (by decide) ?_
          exact ih i1 q1 c1 d1 x6 hI hfi hfc (by have h82 : x6.toInt = (y1_2.toInt + 1) := tx6; omega) (by have h82 : x6.toInt = (y1_2.toInt + 1) := tx6; omega) (by have h82 : x6.toInt = (y1_2.toInt + 1) := tx6; omega) _ _ _ hP hD hS (lv_sub hl [0, 1, 2] rfl)
        · have f5 := mt (ti_eq (a := x4.toInt) (b := 0) rfl (by decide)).mpr c5
          refine lv_aload_n hx hb dX12_isKeyBarred_19 rfl (lv_at hl 1 rfl) ?_
          refine va_get (D := D) (ci := 12) (v := .ref (a 9)) (C := RX12) (T := TX12) (N := 69) hx hb hts (fun _ h => List.mem_cons_of_mem _ (List.mem_append_right _ h)) hown hK hP 0 rfl rfl 9 (by decide) (hts (.fieldLink RX12 25 "TalePlayModel" "form" "[I") (by decide +kernel)) (fun _ h9 => h9) rfl dX12_isKeyBarred_20 ?_
          refine lv_iload_n hx hb dX12_isKeyBarred_23 rfl (lv_at hl 0 rfl) ?_
          refine va_iald hx hb hK hP 6 5 rfl rfl (vp_in_iff.mpr (by have h9 : y1_2.toInt = y1_2.toInt := rfl; omega)) dX12_isKeyBarred_24 ?_
          refine lv_topi (fun x7 ex7 => ?_)
          have rx7 : 0 ≤ x7.toInt ∧ x7.toInt ≤ 7 := by rw [ex7]; exact hI.2 9 _
          refine lv_bipush (v := 7) hx hb dX12_isKeyBarred_25 (by decide) ?_
          refine lv_icmp_ne (tgt := 45) hx hb dX12_isKeyBarred_27 (by decide) (fun c8 => ?_) (fun c8 => ?_)
          · have f8 := mt (ti_eq (a := x7.toInt) (b := 7) rfl (by decide)).mpr c8
            obtain ⟨x9, ex9⟩ : ∃ y : Int32, y = y1_2 + 1 := ⟨_, rfl⟩
            have tx9 := ti_add (a := y1_2.toInt) (b := 1) ex9 rfl (by decide) (by omega) (by omega)
            refine lv_iinc (v := x9) (lv' := [(2, .int x9), (0, .ref o), (1, .int w2)]) hx hb dX12_isKeyBarred_45 hl (k := 0) rfl (by rw [ex9]; rfl) (by decide) rfl (fun ls hl => ?_)
            refine lv_goto (tgt := 2) hx hb dX12_isKeyBarred_48 (by decide) ?_
            exact ih i1 q1 c1 d1 x9 hI hfi hfc (by have h82 : x9.toInt = (y1_2.toInt + 1) := tx9; omega) (by have h82 : x9.toInt = (y1_2.toInt + 1) := tx9; omega) (by have h82 : x9.toInt = (y1_2.toInt + 1) := tx9; omega) _ _ _ hP hD hS (lv_sub hl [0, 1, 2] rfl)
          · have f8 := (ti_eq (a := x7.toInt) (b := 7) rfl (by decide)).mp c8
            refine lv_aload_n hx hb dX12_isKeyBarred_30 rfl (lv_at hl 1 rfl) ?_
            refine va_get (D := D) (ci := 12) (v := .ref (a 11)) (C := RX12) (T := TX12) (N := 69) hx hb hts (fun _ h => List.mem_cons_of_mem _ (List.mem_append_right _ h)) hown hK hP 0 rfl rfl 11 (by decide) (hts (.fieldLink RX12 31 "TalePlayModel" "middle" "[I") (by decide +kernel)) (fun _ h9 => h9) rfl dX12_isKeyBarred_31 ?_
            refine lv_iload_n hx hb dX12_isKeyBarred_34 rfl (lv_at hl 0 rfl) ?_
            refine va_iald hx hb hK hP 8 7 rfl rfl (vp_in_iff.mpr (by have h9 : y1_2.toInt = y1_2.toInt := rfl; omega)) dX12_isKeyBarred_35 ?_
            refine lv_topi (fun x10 ex10 => ?_)
            have rx10 : 0 ≤ x10.toInt ∧ x10.toInt ≤ 29 := by rw [ex10]; exact hI.2 11 _
            refine lv_iload_n hx hb dX12_isKeyBarred_36 rfl (lv_at hl 2 rfl) ?_
            refine lv_icmp_ne (tgt := 45) hx hb dX12_isKeyBarred_37 (by decide) (fun c11 => ?_) (fun c11 => ?_)
            · have f11 := mt (ti_eq (a := x10.toInt) (b := w2.toInt) rfl rfl).mpr c11
              obtain ⟨x12, ex12⟩ : ∃ y : Int32, y = y1_2 + 1 := ⟨_, rfl⟩
              have tx12 := ti_add (a := y1_2.toInt) (b := 1) ex12 rfl (by decide) (by omega) (by omega)
              refine lv_iinc (v := x12) (lv' := [(2, .int x12), (0, .ref o), (1, .int w2)]) hx hb dX12_isKeyBarred_45 hl (k := 0) rfl (by rw [ex12]; rfl) (by decide) rfl (fun ls hl => ?_)
              refine lv_goto (tgt := 2) hx hb dX12_isKeyBarred_48 (by decide) ?_
              exact ih i1 q1 c1 d1 x12 hI hfi hfc (by have h82 : x12.toInt = (y1_2.toInt + 1) := tx12; omega) (by have h82 : x12.toInt = (y1_2.toInt + 1) := tx12; omega) (by have h82 : x12.toInt = (y1_2.toInt + 1) := tx12; omega) _ _ _ hP hD hS (lv_sub hl [0, 1, 2] rfl)
            · have f11 := (ti_eq (a := x10.toInt) (b := w2.toInt) rfl rfl).mp c11
              refine lv_aload_n hx hb dX12_isKeyBarred_40 rfl (lv_at hl 1 rfl) ?_
              refine lv_iload_n hx hb dX12_isKeyBarred_41 rfl (lv_at hl 0 rfl) ?_
              refine al_callv (va_runV (As := [.int y1_2]) (rest := []) ⟨hx, hb, hml, hown, hts⟩ (s_X12_clashes l D H.size o a t i1 q1 c1 d1 y1_2 hI (by omega) (by omega)) (cwV 1 hts gm_X12_isKeyBarred_X12_clashes rfl rfl rfl (by decide +kernel) ⟨Nat.le_of_ble_eq_true rfl, Nat.le_of_ble_eq_true rfl⟩) (pB_V hK hP hD (ci := 12) (q0 := 0) rfl rfl) rfl rfl hl.1 rfl (lv_room (Nat.le_of_ble_eq_true rfl)) dX12_isKeyBarred_42 ⟨Nat.le_of_ble_eq_true rfl, Nat.le_of_ble_eq_true rfl⟩) hS hA hP hD (fun u13 H locs hw13 hP hD hS => ?_)
              obtain ⟨i13, q13, c13, d13⟩ := u13
              have hw13 : True ∧ mInv i13 c13 ∧ (∀ k, k ∉ ([15] : List Nat) → i13 k = i1 k) ∧ (∀ k, k ∉ ([14] : List Nat) → c13 k = c1 k) ∧ ((i13 15).toInt = (i1 15).toInt + 1) := hw13
              obtain ⟨hw13, hI, hei13, hec13, hxp13_0⟩ := hw13
              have hfi := fr_t hfi hei13 (by decide)
              have hfc := fr_t hfc hec13 (by decide)
              have hP : va_P D vwCl (mW o a t i13 q13 c13 d13) H := hP
              have hD : va_D A (mW o a t i13 q13 c13 d13) := hD
              obtain ⟨x14, ex14⟩ : ∃ y : Int32, y = y1_2 + 1 := ⟨_, rfl⟩
              have tx14 := ti_add (a := y1_2.toInt) (b := 1) ex14 rfl (by decide) (by omega) (by omega)
              refine lv_iinc (v := x14) (lv' := [(2, .int x14), (0, .ref o), (1, .int w2)]) hx hb dX12_isKeyBarred_45 hl (k := 0) rfl (by rw [ex14]; rfl) (by decide) rfl (fun ls hl => ?_)
              refine lv_goto (tgt := 2) hx hb dX12_isKeyBarred_48 (by decide) ?_
              exact ih i13 q13 c13 d13 x14 hI hfi hfc (by have h82 : x14.toInt = (y1_2.toInt + 1) := tx14; omega) (by have h82 : x14.toInt = (y1_2.toInt + 1) := tx14; omega) (by have h82 : x14.toInt = (y1_2.toInt + 1) := tx14; omega) _ _ _ hP hD hS (lv_sub hl [0, 1, 2] rfl)
  exact lp1 _ i q c d (0 : Int32) hI hfi hfc (by have h82 : (0 : Int32).toInt = 0 := (by decide); omega) (by have h82 : (0 : Int32).toInt = 0 := (by decide); omega) (Nat.lt_succ_self _) _ _ _ hP hD hS (lv_sub hl [0, 1, 2] rfl)

def wm_X12_isFlagBarred : List Cond := .code yX12_isFlagBarred cX12_isFlagBarred 5 (some .boolean) :: (([.methodLink RX12 216 yX12_saidSo, .instanceMethod yX12_saidSo, .selects RX12 yX12_saidSo yX12_saidSo, .initialized RX12, .code yX12_saidSo cX12_saidSo 6 (some .int), .fieldLink RX12 202 "TalePlayModel" "sentences" "I", .fieldLink RX12 37 "TalePlayModel" "isSaid" "[Z", .fieldLink RX12 25 "TalePlayModel" "form" "[I", .fieldLink RX12 28 "TalePlayModel" "left" "[I", .fieldLink RX12 31 "TalePlayModel" "middle" "[I", .fieldLink RX12 34 "TalePlayModel" "right" "[I", .methodLink RX12 212 yX12_clashes, .instanceMethod yX12_clashes, .selects RX12 yX12_clashes yX12_clashes, .code yX12_clashes cX12_clashes 2 none, .fieldLink RX12 41 "TalePlayModel" "row" "[I", .fieldLink RX12 205 "TalePlayModel" "rowMany" "I", .methodLink RX12 208 yX12_placing, .instanceMethod yX12_placing, .selects RX12 yX12_placing yX12_placing, .code yX12_placing cX12_placing 3 (some .int)] : List Cond) ++ wsX120)
set_option maxRecDepth 20000 in
theorem gm_X12_isFlagBarred_X12_saidSo : GoodIn wm_X12_isFlagBarred (wsV RX12 216 RX12 yX12_saidSo wm_X12_saidSo) := goodIn_app (goodIn_of _ (by decide +kernel)) (goodIn_r _ [5, 6, 7, 8, 9, 10, 11, 22, 23, 24, 25, 26, 27, 28, 29, 30, 31, 32, 33, 34, 35, 36, 37, 38, 39, 40, 41, 42, 43, 44, 45, 46, 47, 48, 49, 50, 51, 52, 53, 54, 55, 56, 57, 58, 59, 60, 61, 62, 63, 64, 65, 66, 67, 68, 69, 70, 71, 72, 73, 74, 75, 76, 77, 78, 79, 80, 81, 82, 83, 84, 85, 86, 87, 88, 89, 90] (by decide +kernel) (by decide +kernel))
set_option maxRecDepth 20000 in
theorem gm_X12_isFlagBarred_X12_clashes : GoodIn wm_X12_isFlagBarred (wsV RX12 212 RX12 yX12_clashes wm_X12_clashes) := goodIn_app (goodIn_of _ (by decide +kernel)) (goodIn_r _ [15, 16, 17, 22, 23, 24, 25, 26, 27, 28, 29, 30, 31, 32, 33, 34, 35, 36, 37, 38, 39, 40, 41, 42, 43, 44, 45, 46, 47, 48, 49, 50, 51, 52, 53, 54, 55, 56, 57, 58, 59, 60, 61, 62, 63, 64, 65, 66, 67, 68, 69, 70, 71, 72, 73, 74, 75, 76, 77, 78, 79, 80, 81, 82, 83, 84, 85, 86, 87, 88, 89, 90] (by decide +kernel) (by decide +kernel))
set_option maxRecDepth 20000 in
theorem gm_X12_isFlagBarred_X12_placing : GoodIn wm_X12_isFlagBarred (wsV RX12 208 RX12 yX12_placing wm_X12_placing) := goodIn_app (goodIn_of _ (by decide +kernel)) (goodIn_r _ [21, 6, 7, 8, 9, 22, 23, 24, 25, 26, 27, 28, 29, 30, 31, 32, 33, 34, 35, 36, 37, 38, 39, 40, 41, 42, 43, 44, 45, 46, 47, 48, 49, 50, 51, 52, 53, 54, 55, 56, 57, 58, 59, 60, 61, 62, 63, 64, 65, 66, 67, 68, 69, 70, 71, 72, 73, 74, 75, 76, 77, 78, 79, 80, 81, 82, 83, 84, 85, 86, 87, 88, 89, 90] (by decide +kernel) (by decide +kernel))
set_option maxHeartbeats 4000000 in
set_option maxRecDepth 100000 in
theorem s_X12_isFlagBarred (l : Launch) (D : va_G) (sz : Nat) (o : Nat) (a : Nat → Nat) (t : Nat → ClassId) (i : Nat → Int32) (q : Int64) (c : Nat → Nat → Int32) (d : Nat → Nat → Int64) (w1 : Int32) (f : Int32) (v1 : Int32) (hI : mInv i c) (hw1 : 0 ≤ w1.toInt ∧ w1.toInt ≤ 29) (hf : 0 ≤ f.toInt ∧ f.toInt ≤ 5) (hv1 : 0 ≤ v1.toInt ∧ v1.toInt ≤ 1) (hrm : (i 15).toInt = 0) : Met l yX12_isFlagBarred wm_X12_isFlagBarred ({ frames := 1, cells := 0, slots := 0, locals := 25 }) (va_Pc [.ref o, .int w1, .int f, .int v1] (pB D sz (mW o a t i q c d) (mT t))) (va_Qi (fun (r : Int32) (u : MS) => (0 ≤ r.toInt ∧ r.toInt ≤ 1) ∧ mInv u.1 u.2.2.1 ∧ (∀ k, k ∉ ([15] : List Nat) → u.1 k = i k) ∧ (∀ k, k ∉ ([14] : List Nat) → u.2.2.1 k = c k)) (oC D (va_A (mW o a t i q c d) sz) (fun u : MS => mW o a t u.1 u.2.1 u.2.2.1 u.2.2.2) (fun _ => [])) (va_A (mW o a t i q c d) sz)) 0 0 (va_A (mW o a t i q c d) sz) := by
  refine Met.ofW (cc := cX12_isFlagBarred) (maxL := 5) (ret := (some .boolean)) (by decide) rfl ?_
  intro p e s m args below meth cd s₁ B hml hv
  obtain ⟨rfl, hsz, hP, hK, hD0⟩ := hv
  have hx := B.exec
  have hb := B.bytes
  have hr := B.returns
  have hts := atoms_spec (ws := wm_X12_isFlagBarred) B.pre
  have hown : s.vm.findClass RX12 = some m.cls := findClass_of_methodNamed B.named
  have hlocks := B.notSynchronized
  subst hsz
  have hD := hD0.self (sz := s.heap.size)
  generalize hAe : va_A (mW o a t i q c d) s.heap.size = A at hD ⊢
  have hA : ∀ q : Nat, s.heap.size ≤ q → A q := fun q h => by rw [← hAe]; exact Or.inr h
  have hS : va_S A s.heap s.heap [] := va_S.rf
  have hfi : ∀ k, k ∉ ([15] : List Nat) → i k = i k := fun _ _ => rfl
  have hfc : ∀ k, k ∉ ([14] : List Nat) → c k = c k := fun _ _ => rfl
  have hl := lv_entry ([.ref o, .int w1, .int f, .int v1]) (n := 5) (Nat.le_of_ble_eq_true rfl)
  rw [lg_entry_eq]
  generalize (lg_sl ([.ref o, .int w1, .int f, .int v1]) ++ List.replicate (5 - (lg_sl ([.ref o, .int w1, .int f, .int v1])).length) Slot.unset).toArray = ls at hl ⊢
  have hl : lv_has ls 5 [(0, .ref o), (1, .int w1), (2, .int f), (3, .int v1)] := hl
  refine lv_aload_n hx hb dX12_isFlagBarred_0 rfl (lv_at hl 0 rfl) ?_
  refine lv_bipush (v := 6) hx hb dX12_isFlagBarred_1 (by decide) ?_
  refine lv_iload_n hx hb dX12_isFlagBarred_3 rfl (lv_at hl 1 rfl) ?_
  refine lv_iload_n hx hb dX12_isFlagBarred_4 rfl (lv_at hl 2 rfl) ?_
  refine lv_iconst (v := 1) hx hb dX12_isFlagBarred_5 (by decide) ?_
  refine lv_iload_n hx hb dX12_isFlagBarred_6 rfl (lv_at hl 3 rfl) ?_
  refine lv_isub hx hb dX12_isFlagBarred_7 ?_
  refine lv_topi (fun x1 ex1 => ?_)
  have tx1 := ti_sub (a := 1) (b := v1.toInt) ex1 (by decide) rfl (by omega) (by omega)
  refine ro_calli (va_runV (As := [.int 6, .int w1, .int f, .int x1]) (rest := []) ⟨hx, hb, hml, hown, hts⟩ (s_X12_saidSo l D s.heap.size o a t i q c d 6 w1 f x1 hI ) (cwV 4 hts gm_X12_isFlagBarred_X12_saidSo rfl rfl rfl (by decide +kernel) ⟨Nat.le_of_ble_eq_true rfl, Nat.le_of_ble_eq_true rfl⟩) (pA_V hK hP (ci := 12) (q0 := 0) rfl rfl) rfl rfl hl.1 rfl (lv_room (Nat.le_of_ble_eq_true rfl)) dX12_isFlagBarred_8 ⟨Nat.le_of_ble_eq_true rfl, Nat.le_of_ble_eq_true rfl⟩) hS hA hP (fun r2 u2 H locs hw2 hP hS => ?_)
  have hw2 : r2.toInt = -9 ∨ (0 ≤ r2.toInt ∧ r2.toInt ≤ 199) := hw2
  refine lv_istore (lv' := [(4, .int r2), (0, .ref o), (1, .int w1), (2, .int f), (3, .int v1)]) hx hb dX12_isFlagBarred_11 hl (by decide) rfl (fun ls hl => ?_)
  refine lv_iload hx hb dX12_isFlagBarred_13 (lv_at hl 0 rfl) ?_
  refine lv_bipush (v := (-9)) hx hb dX12_isFlagBarred_15 (by decide) ?_
  refine lv_icmp_ne (tgt := 47) hx hb dX12_isFlagBarred_17 (by decide) (fun c3 => ?_) (fun c3 => ?_)
  · have f3 := mt (ti_eq (a := r2.toInt) (b := (-9)) rfl (by decide)).mpr c3
    refine lv_iload hx hb dX12_isFlagBarred_47 (lv_at hl 0 rfl) ?_
    refine lv_bipush (v := (-9)) hx hb dX12_isFlagBarred_49 (by decide) ?_
    refine lv_icmp_ne (tgt := 94) hx hb dX12_isFlagBarred_51 (by decide) (fun c4 => ?_) (fun c4 => ?_)
    · have f4 := mt (ti_eq (a := r2.toInt) (b := (-9)) rfl (by decide)).mpr c4
      refine lv_iload hx hb dX12_isFlagBarred_94 (lv_at hl 0 rfl) ?_
      refine lv_bipush (v := (-9)) hx hb dX12_isFlagBarred_96 (by decide) ?_
      refine lv_icmp_eq (tgt := 107) hx hb dX12_isFlagBarred_98 (by decide) (fun c5 => ?_) (fun c5 => ?_)
      · have f5 := (ti_eq (a := r2.toInt) (b := (-9)) rfl (by decide)).mp c5
        refine lv_iload hx hb dX12_isFlagBarred_107 (lv_at hl 0 rfl) ?_
        refine lv_bipush (v := (-9)) hx hb dX12_isFlagBarred_109 (by decide) ?_
        refine lv_icmp_eq (tgt := 118) hx hb dX12_isFlagBarred_111 (by decide) (fun c6 => ?_) (fun c6 => ?_)
        · have f6 := (ti_eq (a := r2.toInt) (b := (-9)) rfl (by decide)).mp c6
          refine lv_iconst (v := 0) hx hb dX12_isFlagBarred_118 (by decide) ?_
          exact rw_zret (i, q, c, d) hx hb hr hlocks hS (hK.sub (tys' := []) [] rfl) hP hD rfl dX12_isFlagBarred_119 ⟨(show 0 ≤ (0 : Int32).toInt ∧ (0 : Int32).toInt ≤ 1 from by decide), hI, hfi, hfc⟩
        · have f6 := mt (ti_eq (a := r2.toInt) (b := (-9)) rfl (by decide)).mpr c6
          refine lv_iconst (v := 1) hx hb dX12_isFlagBarred_114 (by decide) ?_
          refine lv_goto (tgt := 119) hx hb dX12_isFlagBarred_115 (by decide) ?_
          exact rw_zret (i, q, c, d) hx hb hr hlocks hS (hK.sub (tys' := []) [] rfl) hP hD rfl dX12_isFlagBarred_119 ⟨(show 0 ≤ (1 : Int32).toInt ∧ (1 : Int32).toInt ≤ 1 from by decide), hI, hfi, hfc⟩
      · have f5 := mt (ti_eq (a := r2.toInt) (b := (-9)) rfl (by decide)).mpr c5
        refine lv_aload_n hx hb dX12_isFlagBarred_101 rfl (lv_at hl 1 rfl) ?_
        refine lv_iload hx hb dX12_isFlagBarred_102 (lv_at hl 0 rfl) ?_
        refine al_callv (va_runV (As := [.int r2]) (rest := []) ⟨hx, hb, hml, hown, hts⟩ (s_X12_clashes l D H.size o a t i q c d r2 hI (by omega) (by omega)) (cwV 1 hts gm_X12_isFlagBarred_X12_clashes rfl rfl rfl (by decide +kernel) ⟨Nat.le_of_ble_eq_true rfl, Nat.le_of_ble_eq_true rfl⟩) (pB_V hK hP hD (ci := 12) (q0 := 0) rfl rfl) rfl rfl hl.1 rfl (lv_room (Nat.le_of_ble_eq_true rfl)) dX12_isFlagBarred_104 ⟨Nat.le_of_ble_eq_true rfl, Nat.le_of_ble_eq_true rfl⟩) hS hA hP hD (fun u7 H locs hw7 hP hD hS => ?_)
        obtain ⟨i7, q7, c7, d7⟩ := u7
        have hw7 : True ∧ mInv i7 c7 ∧ (∀ k, k ∉ ([15] : List Nat) → i7 k = i k) ∧ (∀ k, k ∉ ([14] : List Nat) → c7 k = c k) ∧ ((i7 15).toInt = (i 15).toInt + 1) := hw7
        obtain ⟨hw7, hI, hei7, hec7, hxp7_0⟩ := hw7
        have hfi := fr_t hfi hei7 (by decide)
        have hfc := fr_t hfc hec7 (by decide)
        have hP : va_P D vwCl (mW o a t i7 q7 c7 d7) H := hP
        have hD : va_D A (mW o a t i7 q7 c7 d7) := hD
        refine lv_iload hx hb dX12_isFlagBarred_107 (lv_at hl 0 rfl) ?_
        refine lv_bipush (v := (-9)) hx hb dX12_isFlagBarred_109 (by decide) ?_
        refine lv_icmp_eq (tgt := 118) hx hb dX12_isFlagBarred_111 (by decide) (fun c8 => ?_) (fun c8 => ?_)
        · have f8 := (ti_eq (a := r2.toInt) (b := (-9)) rfl (by decide)).mp c8
          refine lv_iconst (v := 0) hx hb dX12_isFlagBarred_118 (by decide) ?_
          exact rw_zret (i7, q7, c7, d7) hx hb hr hlocks hS (hK.sub (tys' := []) [] rfl) hP hD rfl dX12_isFlagBarred_119 ⟨(show 0 ≤ (0 : Int32).toInt ∧ (0 : Int32).toInt ≤ 1 from by decide), hI, hfi, hfc⟩
        · have f8 := mt (ti_eq (a := r2.toInt) (b := (-9)) rfl (by decide)).mpr c8
          refine lv_iconst (v := 1) hx hb dX12_isFlagBarred_114 (by decide) ?_
          refine lv_goto (tgt := 119) hx hb dX12_isFlagBarred_115 (by decide) ?_
          exact rw_zret (i7, q7, c7, d7) hx hb hr hlocks hS (hK.sub (tys' := []) [] rfl) hP hD rfl dX12_isFlagBarred_119 ⟨(show 0 ≤ (1 : Int32).toInt ∧ (1 : Int32).toInt ≤ 1 from by decide), hI, hfi, hfc⟩
    · have f4 := (ti_eq (a := r2.toInt) (b := (-9)) rfl (by decide)).mp c4
      refine lv_iload_n hx hb dX12_isFlagBarred_54 rfl (lv_at hl 3 rfl) ?_
      refine lv_iconst (v := 4) hx hb dX12_isFlagBarred_55 (by decide) ?_
      refine lv_icmp_ne (tgt := 94) hx hb dX12_isFlagBarred_56 (by decide) (fun c9 => ?_) (fun c9 => ?_)
      · have f9 := mt (ti_eq (a := f.toInt) (b := 4) rfl (by decide)).mpr c9
        refine lv_iload hx hb dX12_isFlagBarred_94 (lv_at hl 0 rfl) ?_
        refine lv_bipush (v := (-9)) hx hb dX12_isFlagBarred_96 (by decide) ?_
        refine lv_icmp_eq (tgt := 107) hx hb dX12_isFlagBarred_98 (by decide) (fun c10 => ?_) (fun c10 => ?_)
        · have f10 := (ti_eq (a := r2.toInt) (b := (-9)) rfl (by decide)).mp c10
          refine lv_iload hx hb dX12_isFlagBarred_107 (lv_at hl 0 rfl) ?_
          refine lv_bipush (v := (-9)) hx hb dX12_isFlagBarred_109 (by decide) ?_
          refine lv_icmp_eq (tgt := 118) hx hb dX12_isFlagBarred_111 (by decide) (fun c11 => ?_) (fun c11 => ?_)
          · have f11 := (ti_eq (a := r2.toInt) (b := (-9)) rfl (by decide)).mp c11
            refine lv_iconst (v := 0) hx hb dX12_isFlagBarred_118 (by decide) ?_
            exact rw_zret (i, q, c, d) hx hb hr hlocks hS (hK.sub (tys' := []) [] rfl) hP hD rfl dX12_isFlagBarred_119 ⟨(show 0 ≤ (0 : Int32).toInt ∧ (0 : Int32).toInt ≤ 1 from by decide), hI, hfi, hfc⟩
          · have f11 := mt (ti_eq (a := r2.toInt) (b := (-9)) rfl (by decide)).mpr c11
            refine lv_iconst (v := 1) hx hb dX12_isFlagBarred_114 (by decide) ?_
            refine lv_goto (tgt := 119) hx hb dX12_isFlagBarred_115 (by decide) ?_
            exact rw_zret (i, q, c, d) hx hb hr hlocks hS (hK.sub (tys' := []) [] rfl) hP hD rfl dX12_isFlagBarred_119 ⟨(show 0 ≤ (1 : Int32).toInt ∧ (1 : Int32).toInt ≤ 1 from by decide), hI, hfi, hfc⟩
        · have f10 := mt (ti_eq (a := r2.toInt) (b := (-9)) rfl (by decide)).mpr c10
          refine lv_aload_n hx hb dX12_isFlagBarred_101 rfl (lv_at hl 1 rfl) ?_
          refine lv_iload hx hb dX12_isFlagBarred_102 (lv_at hl 0 rfl) ?_
          refine al_callv (va_runV (As := [.int r2]) (rest := []) ⟨hx, hb, hml, hown, hts⟩ (s_X12_clashes l D H.size o a t i q c d r2 hI (by omega) (by omega)) (cwV 1 hts gm_X12_isFlagBarred_X12_clashes rfl rfl rfl (by decide +kernel) ⟨Nat.le_of_ble_eq_true rfl, Nat.le_of_ble_eq_true rfl⟩) (pB_V hK hP hD (ci := 12) (q0 := 0) rfl rfl) rfl rfl hl.1 rfl (lv_room (Nat.le_of_ble_eq_true rfl)) dX12_isFlagBarred_104 ⟨Nat.le_of_ble_eq_true rfl, Nat.le_of_ble_eq_true rfl⟩) hS hA hP hD (fun u12 H locs hw12 hP hD hS => ?_)
          obtain ⟨i12, q12, c12, d12⟩ := u12
          have hw12 : True ∧ mInv i12 c12 ∧ (∀ k, k ∉ ([15] : List Nat) → i12 k = i k) ∧ (∀ k, k ∉ ([14] : List Nat) → c12 k = c k) ∧ ((i12 15).toInt = (i 15).toInt + 1) := hw12
          obtain ⟨hw12, hI, hei12, hec12, hxp12_0⟩ := hw12
          have hfi := fr_t hfi hei12 (by decide)
          have hfc := fr_t hfc hec12 (by decide)
          have hP : va_P D vwCl (mW o a t i12 q12 c12 d12) H := hP
          have hD : va_D A (mW o a t i12 q12 c12 d12) := hD
          refine lv_iload hx hb dX12_isFlagBarred_107 (lv_at hl 0 rfl) ?_
          refine lv_bipush (v := (-9)) hx hb dX12_isFlagBarred_109 (by decide) ?_
          refine lv_icmp_eq (tgt := 118) hx hb dX12_isFlagBarred_111 (by decide) (fun c13 => ?_) (fun c13 => ?_)
          · have f13 := (ti_eq (a := r2.toInt) (b := (-9)) rfl (by decide)).mp c13
            refine lv_iconst (v := 0) hx hb dX12_isFlagBarred_118 (by decide) ?_
            exact rw_zret (i12, q12, c12, d12) hx hb hr hlocks hS (hK.sub (tys' := []) [] rfl) hP hD rfl dX12_isFlagBarred_119 ⟨(show 0 ≤ (0 : Int32).toInt ∧ (0 : Int32).toInt ≤ 1 from by decide), hI, hfi, hfc⟩
          · have f13 := mt (ti_eq (a := r2.toInt) (b := (-9)) rfl (by decide)).mpr c13
            refine lv_iconst (v := 1) hx hb dX12_isFlagBarred_114 (by decide) ?_
            refine lv_goto (tgt := 119) hx hb dX12_isFlagBarred_115 (by decide) ?_
            exact rw_zret (i12, q12, c12, d12) hx hb hr hlocks hS (hK.sub (tys' := []) [] rfl) hP hD rfl dX12_isFlagBarred_119 ⟨(show 0 ≤ (1 : Int32).toInt ∧ (1 : Int32).toInt ≤ 1 from by decide), hI, hfi, hfc⟩
      · have f9 := (ti_eq (a := f.toInt) (b := 4) rfl (by decide)).mp c9
        refine lv_iload_n hx hb dX12_isFlagBarred_59 rfl (lv_at hl 4 rfl) ?_
        refine lv_if_ne (tgt := 94) hx hb dX12_isFlagBarred_60 (by decide) (fun c14 => ?_) (fun c14 => ?_)
        · have f14 := mt (ti_eq (a := v1.toInt) (b := 0) rfl (by decide)).mpr c14
          refine lv_iload hx hb dX12_isFlagBarred_94 (lv_at hl 0 rfl) ?_
          refine lv_bipush (v := (-9)) hx hb dX12_isFlagBarred_96 (by decide) ?_
          refine lv_icmp_eq (tgt := 107) hx hb dX12_isFlagBarred_98 (by decide) (fun c15 => ?_) (fun c15 => ?_)
          · have f15 := (ti_eq (a := r2.toInt) (b := (-9)) rfl (by decide)).mp c15
            refine lv_iload hx hb dX12_isFlagBarred_107 (lv_at hl 0 rfl) ?_
            refine lv_bipush (v := (-9)) hx hb dX12_isFlagBarred_109 (by decide) ?_
            refine lv_icmp_eq (tgt := 118) hx hb dX12_isFlagBarred_111 (by decide) (fun c16 => ?_) (fun c16 => ?_)
            · have f16 := (ti_eq (a := r2.toInt) (b := (-9)) rfl (by decide)).mp c16
              refine lv_iconst (v := 0) hx hb dX12_isFlagBarred_118 (by decide) ?_
              exact rw_zret (i, q, c, d) hx hb hr hlocks hS (hK.sub (tys' := []) [] rfl) hP hD rfl dX12_isFlagBarred_119 ⟨(show 0 ≤ (0 : Int32).toInt ∧ (0 : Int32).toInt ≤ 1 from by decide), hI, hfi, hfc⟩
            · have f16 := mt (ti_eq (a := r2.toInt) (b := (-9)) rfl (by decide)).mpr c16
              refine lv_iconst (v := 1) hx hb dX12_isFlagBarred_114 (by decide) ?_
              refine lv_goto (tgt := 119) hx hb dX12_isFlagBarred_115 (by decide) ?_
              exact rw_zret (i, q, c, d) hx hb hr hlocks hS (hK.sub (tys' := []) [] rfl) hP hD rfl dX12_isFlagBarred_119 ⟨(show 0 ≤ (1 : Int32).toInt ∧ (1 : Int32).toInt ≤ 1 from by decide), hI, hfi, hfc⟩
          · have f15 := mt (ti_eq (a := r2.toInt) (b := (-9)) rfl (by decide)).mpr c15
            refine lv_aload_n hx hb dX12_isFlagBarred_101 rfl (lv_at hl 1 rfl) ?_
            refine lv_iload hx hb dX12_isFlagBarred_102 (lv_at hl 0 rfl) ?_
            refine al_callv (va_runV (As := [.int r2]) (rest := []) ⟨hx, hb, hml, hown, hts⟩ (s_X12_clashes l D H.size o a t i q c d r2 hI (by omega) (by omega)) (cwV 1 hts gm_X12_isFlagBarred_X12_clashes rfl rfl rfl (by decide +kernel) ⟨Nat.le_of_ble_eq_true rfl, Nat.le_of_ble_eq_true rfl⟩) (pB_V hK hP hD (ci := 12) (q0 := 0) rfl rfl) rfl rfl hl.1 rfl (lv_room (Nat.le_of_ble_eq_true rfl)) dX12_isFlagBarred_104 ⟨Nat.le_of_ble_eq_true rfl, Nat.le_of_ble_eq_true rfl⟩) hS hA hP hD (fun u17 H locs hw17 hP hD hS => ?_)
            obtain ⟨i17, q17, c17, d17⟩ := u17
            have hw17 : True ∧ mInv i17 c17 ∧ (∀ k, k ∉ ([15] : List Nat) → i17 k = i k) ∧ (∀ k, k ∉ ([14] : List Nat) → c17 k = c k) ∧ ((i17 15).toInt = (i 15).toInt + 1) := hw17
            obtain ⟨hw17, hI, hei17, hec17, hxp17_0⟩ := hw17
            have hfi := fr_t hfi hei17 (by decide)
            have hfc := fr_t hfc hec17 (by decide)
            have hP : va_P D vwCl (mW o a t i17 q17 c17 d17) H := hP
            have hD : va_D A (mW o a t i17 q17 c17 d17) := hD
            refine lv_iload hx hb dX12_isFlagBarred_107 (lv_at hl 0 rfl) ?_
            refine lv_bipush (v := (-9)) hx hb dX12_isFlagBarred_109 (by decide) ?_
            refine lv_icmp_eq (tgt := 118) hx hb dX12_isFlagBarred_111 (by decide) (fun c18 => ?_) (fun c18 => ?_)
            · have f18 := (ti_eq (a := r2.toInt) (b := (-9)) rfl (by decide)).mp c18
              refine lv_iconst (v := 0) hx hb dX12_isFlagBarred_118 (by decide) ?_
              exact rw_zret (i17, q17, c17, d17) hx hb hr hlocks hS (hK.sub (tys' := []) [] rfl) hP hD rfl dX12_isFlagBarred_119 ⟨(show 0 ≤ (0 : Int32).toInt ∧ (0 : Int32).toInt ≤ 1 from by decide), hI, hfi, hfc⟩
            · have f18 := mt (ti_eq (a := r2.toInt) (b := (-9)) rfl (by decide)).mpr c18
              refine lv_iconst (v := 1) hx hb dX12_isFlagBarred_114 (by decide) ?_
              refine lv_goto (tgt := 119) hx hb dX12_isFlagBarred_115 (by decide) ?_
              exact rw_zret (i17, q17, c17, d17) hx hb hr hlocks hS (hK.sub (tys' := []) [] rfl) hP hD rfl dX12_isFlagBarred_119 ⟨(show 0 ≤ (1 : Int32).toInt ∧ (1 : Int32).toInt ≤ 1 from by decide), hI, hfi, hfc⟩
        · have f14 := (ti_eq (a := v1.toInt) (b := 0) rfl (by decide)).mp c14
          refine lv_aload_n hx hb dX12_isFlagBarred_63 rfl (lv_at hl 1 rfl) ?_
          refine lv_iload_n hx hb dX12_isFlagBarred_64 rfl (lv_at hl 2 rfl) ?_
          refine ro_calli (va_runV (As := [.int w1]) (rest := []) ⟨hx, hb, hml, hown, hts⟩ (s_X12_placing l D H.size o a t i q c d w1 hI ) (cwV 1 hts gm_X12_isFlagBarred_X12_placing rfl rfl rfl (by decide +kernel) ⟨Nat.le_of_ble_eq_true rfl, Nat.le_of_ble_eq_true rfl⟩) (pA_V hK hP (ci := 12) (q0 := 0) rfl rfl) rfl rfl hl.1 rfl (lv_room (Nat.le_of_ble_eq_true rfl)) dX12_isFlagBarred_65 ⟨Nat.le_of_ble_eq_true rfl, Nat.le_of_ble_eq_true rfl⟩) hS hA hP (fun r19 u19 H locs hw19 hP hS => ?_)
          have hw19 : r19.toInt = -9 ∨ (0 ≤ r19.toInt ∧ r19.toInt ≤ 199) := hw19
          refine lv_bipush (v := (-9)) hx hb dX12_isFlagBarred_68 (by decide) ?_
          refine lv_icmp_eq (tgt := 94) hx hb dX12_isFlagBarred_70 (by decide) (fun c20 => ?_) (fun c20 => ?_)
          · have f20 := (ti_eq (a := r19.toInt) (b := (-9)) rfl (by decide)).mp c20
            refine lv_iload hx hb dX12_isFlagBarred_94 (lv_at hl 0 rfl) ?_
            refine lv_bipush (v := (-9)) hx hb dX12_isFlagBarred_96 (by decide) ?_
            refine lv_icmp_eq (tgt := 107) hx hb dX12_isFlagBarred_98 (by decide) (fun c21 => ?_) (fun c21 => ?_)
            · have f21 := (ti_eq (a := r2.toInt) (b := (-9)) rfl (by decide)).mp c21
              refine lv_iload hx hb dX12_isFlagBarred_107 (lv_at hl 0 rfl) ?_
              refine lv_bipush (v := (-9)) hx hb dX12_isFlagBarred_109 (by decide) ?_
              refine lv_icmp_eq (tgt := 118) hx hb dX12_isFlagBarred_111 (by decide) (fun c22 => ?_) (fun c22 => ?_)
              · have f22 := (ti_eq (a := r2.toInt) (b := (-9)) rfl (by decide)).mp c22
                refine lv_iconst (v := 0) hx hb dX12_isFlagBarred_118 (by decide) ?_
                exact rw_zret (i, q, c, d) hx hb hr hlocks hS (hK.sub (tys' := []) [] rfl) hP hD rfl dX12_isFlagBarred_119 ⟨(show 0 ≤ (0 : Int32).toInt ∧ (0 : Int32).toInt ≤ 1 from by decide), hI, hfi, hfc⟩
              · have f22 := mt (ti_eq (a := r2.toInt) (b := (-9)) rfl (by decide)).mpr c22
                refine lv_iconst (v := 1) hx hb dX12_isFlagBarred_114 (by decide) ?_
                refine lv_goto (tgt := 119) hx hb dX12_isFlagBarred_115 (by decide) ?_
                exact rw_zret (i, q, c, d) hx hb hr hlocks hS (hK.sub (tys' := []) [] rfl) hP hD rfl dX12_isFlagBarred_119 ⟨(show 0 ≤ (1 : Int32).toInt ∧ (1 : Int32).toInt ≤ 1 from by decide), hI, hfi, hfc⟩
            · have f21 := mt (ti_eq (a := r2.toInt) (b := (-9)) rfl (by decide)).mpr c21
              refine lv_aload_n hx hb dX12_isFlagBarred_101 rfl (lv_at hl 1 rfl) ?_
              refine lv_iload hx hb dX12_isFlagBarred_102 (lv_at hl 0 rfl) ?_
              refine al_callv (va_runV (As := [.int r2]) (rest := []) ⟨hx, hb, hml, hown, hts⟩ (s_X12_clashes l D H.size o a t i q c d r2 hI (by omega) (by omega)) (cwV 1 hts gm_X12_isFlagBarred_X12_clashes rfl rfl rfl (by decide +kernel) ⟨Nat.le_of_ble_eq_true rfl, Nat.le_of_ble_eq_true rfl⟩) (pB_V hK hP hD (ci := 12) (q0 := 0) rfl rfl) rfl rfl hl.1 rfl (lv_room (Nat.le_of_ble_eq_true rfl)) dX12_isFlagBarred_104 ⟨Nat.le_of_ble_eq_true rfl, Nat.le_of_ble_eq_true rfl⟩) hS hA hP hD (fun u23 H locs hw23 hP hD hS => ?_)
              obtain ⟨i23, q23, c23, d23⟩ := u23
              have hw23 : True ∧ mInv i23 c23 ∧ (∀ k, k ∉ ([15] : List Nat) → i23 k = i k) ∧ (∀ k, k ∉ ([14] : List Nat) → c23 k = c k) ∧ ((i23 15).toInt = (i 15).toInt + 1) := hw23
              obtain ⟨hw23, hI, hei23, hec23, hxp23_0⟩ := hw23
              have hfi := fr_t hfi hei23 (by decide)
              have hfc := fr_t hfc hec23 (by decide)
              have hP : va_P D vwCl (mW o a t i23 q23 c23 d23) H := hP
              have hD : va_D A (mW o a t i23 q23 c23 d23) := hD
              refine lv_iload hx hb dX12_isFlagBarred_107 (lv_at hl 0 rfl) ?_
              refine lv_bipush (v := (-9)) hx hb dX12_isFlagBarred_109 (by decide) ?_
              refine lv_icmp_eq (tgt := 118) hx hb dX12_isFlagBarred_111 (by decide) (fun c24 => ?_) (fun c24 => ?_)
              · have f24 := (ti_eq (a := r2.toInt) (b := (-9)) rfl (by decide)).mp c24
                refine lv_iconst (v := 0) hx hb dX12_isFlagBarred_118 (by decide) ?_
                exact rw_zret (i23, q23, c23, d23) hx hb hr hlocks hS (hK.sub (tys' := []) [] rfl) hP hD rfl dX12_isFlagBarred_119 ⟨(show 0 ≤ (0 : Int32).toInt ∧ (0 : Int32).toInt ≤ 1 from by decide), hI, hfi, hfc⟩
              · have f24 := mt (ti_eq (a := r2.toInt) (b := (-9)) rfl (by decide)).mpr c24
                refine lv_iconst (v := 1) hx hb dX12_isFlagBarred_114 (by decide) ?_
                refine lv_goto (tgt := 119) hx hb dX12_isFlagBarred_115 (by decide) ?_
                exact rw_zret (i23, q23, c23, d23) hx hb hr hlocks hS (hK.sub (tys' := []) [] rfl) hP hD rfl dX12_isFlagBarred_119 ⟨(show 0 ≤ (1 : Int32).toInt ∧ (1 : Int32).toInt ≤ 1 from by decide), hI, hfi, hfc⟩
          · have f20 := mt (ti_eq (a := r19.toInt) (b := (-9)) rfl (by decide)).mpr c20
            refine lv_aload_n hx hb dX12_isFlagBarred_73 rfl (lv_at hl 1 rfl) ?_
            refine va_get (D := D) (ci := 12) (v := .ref (a 9)) (C := RX12) (T := TX12) (N := 69) hx hb hts (fun _ h => List.mem_cons_of_mem _ (List.mem_append_right _ h)) hown hK hP 0 rfl rfl 9 (by decide) (hts (.fieldLink RX12 25 "TalePlayModel" "form" "[I") (by decide +kernel)) (fun _ h9 => h9) rfl dX12_isFlagBarred_74 ?_
            refine lv_aload_n hx hb dX12_isFlagBarred_77 rfl (lv_at hl 1 rfl) ?_
            refine lv_iload_n hx hb dX12_isFlagBarred_78 rfl (lv_at hl 2 rfl) ?_
            refine ro_calli (va_runV (As := [.int w1]) (rest := [.ref (a 9)]) ⟨hx, hb, hml, hown, hts⟩ (s_X12_placing l D H.size o a t i q c d w1 hI ) (cwV 1 hts gm_X12_isFlagBarred_X12_placing rfl rfl rfl (by decide +kernel) ⟨Nat.le_of_ble_eq_true rfl, Nat.le_of_ble_eq_true rfl⟩) (pA_V hK hP (ci := 12) (q0 := 0) rfl rfl) rfl rfl hl.1 rfl (lv_room (Nat.le_of_ble_eq_true rfl)) dX12_isFlagBarred_79 ⟨Nat.le_of_ble_eq_true rfl, Nat.le_of_ble_eq_true rfl⟩) hS hA hP (fun r25 u25 H locs hw25 hP hS => ?_)
            have hw25 : r25.toInt = -9 ∨ (0 ≤ r25.toInt ∧ r25.toInt ≤ 199) := hw25
            refine va_iald hx hb hK hP 6 5 rfl rfl (vp_in_iff.mpr (by have h9 : r25.toInt = r25.toInt := rfl; omega)) dX12_isFlagBarred_82 ?_
            refine lv_topi (fun x26 ex26 => ?_)
            have rx26 : 0 ≤ x26.toInt ∧ x26.toInt ≤ 7 := by rw [ex26]; exact hI.2 9 _
            refine lv_iconst (v := 3) hx hb dX12_isFlagBarred_83 (by decide) ?_
            refine lv_icmp_ne (tgt := 94) hx hb dX12_isFlagBarred_84 (by decide) (fun c27 => ?_) (fun c27 => ?_)
            · have f27 := mt (ti_eq (a := x26.toInt) (b := 3) rfl (by decide)).mpr c27
              refine lv_iload hx hb dX12_isFlagBarred_94 (lv_at hl 0 rfl) ?_
              refine lv_bipush (v := (-9)) hx hb dX12_isFlagBarred_96 (by decide) ?_
              refine lv_icmp_eq (tgt := 107) hx hb dX12_isFlagBarred_98 (by decide) (fun c28 => ?_) (fun c28 => ?_)
              · have f28 := (ti_eq (a := r2.toInt) (b := (-9)) rfl (by decide)).mp c28
                refine lv_iload hx hb dX12_isFlagBarred_107 (lv_at hl 0 rfl) ?_
                refine lv_bipush (v := (-9)) hx hb dX12_isFlagBarred_109 (by decide) ?_
                refine lv_icmp_eq (tgt := 118) hx hb dX12_isFlagBarred_111 (by decide) (fun c29 => ?_) (fun c29 => ?_)
                · have f29 := (ti_eq (a := r2.toInt) (b := (-9)) rfl (by decide)).mp c29
                  refine lv_iconst (v := 0) hx hb dX12_isFlagBarred_118 (by decide) ?_
                  exact rw_zret (i, q, c, d) hx hb hr hlocks hS (hK.sub (tys' := []) [] rfl) hP hD rfl dX12_isFlagBarred_119 ⟨(show 0 ≤ (0 : Int32).toInt ∧ (0 : Int32).toInt ≤ 1 from by decide), hI, hfi, hfc⟩
                · have f29 := mt (ti_eq (a := r2.toInt) (b := (-9)) rfl (by decide)).mpr c29
                  refine lv_iconst (v := 1) hx hb dX12_isFlagBarred_114 (by decide) ?_
                  refine lv_goto (tgt := 119) hx hb dX12_isFlagBarred_115 (by decide) ?_
                  exact rw_zret (i, q, c, d) hx hb hr hlocks hS (hK.sub (tys' := []) [] rfl) hP hD rfl dX12_isFlagBarred_119 ⟨(show 0 ≤ (1 : Int32).toInt ∧ (1 : Int32).toInt ≤ 1 from by decide), hI, hfi, hfc⟩
              · have f28 := mt (ti_eq (a := r2.toInt) (b := (-9)) rfl (by decide)).mpr c28
                refine lv_aload_n hx hb dX12_isFlagBarred_101 rfl (lv_at hl 1 rfl) ?_
                refine lv_iload hx hb dX12_isFlagBarred_102 (lv_at hl 0 rfl) ?_
                refine al_callv (va_runV (As := [.int r2]) (rest := []) ⟨hx, hb, hml, hown, hts⟩ (s_X12_clashes l D H.size o a t i q c d r2 hI (by omega) (by omega)) (cwV 1 hts gm_X12_isFlagBarred_X12_clashes rfl rfl rfl (by decide +kernel) ⟨Nat.le_of_ble_eq_true rfl, Nat.le_of_ble_eq_true rfl⟩) (pB_V hK hP hD (ci := 12) (q0 := 0) rfl rfl) rfl rfl hl.1 rfl (lv_room (Nat.le_of_ble_eq_true rfl)) dX12_isFlagBarred_104 ⟨Nat.le_of_ble_eq_true rfl, Nat.le_of_ble_eq_true rfl⟩) hS hA hP hD (fun u30 H locs hw30 hP hD hS => ?_)
                obtain ⟨i30, q30, c30, d30⟩ := u30
                have hw30 : True ∧ mInv i30 c30 ∧ (∀ k, k ∉ ([15] : List Nat) → i30 k = i k) ∧ (∀ k, k ∉ ([14] : List Nat) → c30 k = c k) ∧ ((i30 15).toInt = (i 15).toInt + 1) := hw30
                obtain ⟨hw30, hI, hei30, hec30, hxp30_0⟩ := hw30
                have hfi := fr_t hfi hei30 (by decide)
                have hfc := fr_t hfc hec30 (by decide)
                have hP : va_P D vwCl (mW o a t i30 q30 c30 d30) H := hP
                have hD : va_D A (mW o a t i30 q30 c30 d30) := hD
                refine lv_iload hx hb dX12_isFlagBarred_107 (lv_at hl 0 rfl) ?_
                refine lv_bipush (v := (-9)) hx hb dX12_isFlagBarred_109 (by decide) ?_
                refine lv_icmp_eq (tgt := 118) hx hb dX12_isFlagBarred_111 (by decide) (fun c31 => ?_) (fun c31 => ?_)
                · have f31 := (ti_eq (a := r2.toInt) (b := (-9)) rfl (by decide)).mp c31
                  refine lv_iconst (v := 0) hx hb dX12_isFlagBarred_118 (by decide) ?_
                  exact rw_zret (i30, q30, c30, d30) hx hb hr hlocks hS (hK.sub (tys' := []) [] rfl) hP hD rfl dX12_isFlagBarred_119 ⟨(show 0 ≤ (0 : Int32).toInt ∧ (0 : Int32).toInt ≤ 1 from by decide), hI, hfi, hfc⟩
                · have f31 := mt (ti_eq (a := r2.toInt) (b := (-9)) rfl (by decide)).mpr c31
                  refine lv_iconst (v := 1) hx hb dX12_isFlagBarred_114 (by decide) ?_
                  refine lv_goto (tgt := 119) hx hb dX12_isFlagBarred_115 (by decide) ?_
                  exact rw_zret (i30, q30, c30, d30) hx hb hr hlocks hS (hK.sub (tys' := []) [] rfl) hP hD rfl dX12_isFlagBarred_119 ⟨(show 0 ≤ (1 : Int32).toInt ∧ (1 : Int32).toInt ≤ 1 from by decide), hI, hfi, hfc⟩
            · have f27 := (ti_eq (a := x26.toInt) (b := 3) rfl (by decide)).mp c27
              refine lv_aload_n hx hb dX12_isFlagBarred_87 rfl (lv_at hl 1 rfl) ?_
              refine lv_iload_n hx hb dX12_isFlagBarred_88 rfl (lv_at hl 2 rfl) ?_
              refine ro_calli (va_runV (As := [.int w1]) (rest := []) ⟨hx, hb, hml, hown, hts⟩ (s_X12_placing l D H.size o a t i q c d w1 hI ) (cwV 1 hts gm_X12_isFlagBarred_X12_placing rfl rfl rfl (by decide +kernel) ⟨Nat.le_of_ble_eq_true rfl, Nat.le_of_ble_eq_true rfl⟩) (pA_V hK hP (ci := 12) (q0 := 0) rfl rfl) rfl rfl hl.1 rfl (lv_room (Nat.le_of_ble_eq_true rfl)) dX12_isFlagBarred_89 ⟨Nat.le_of_ble_eq_true rfl, Nat.le_of_ble_eq_true rfl⟩) hS hA hP (fun r32 u32 H locs hw32 hP hS => ?_)
              have hw32 : r32.toInt = -9 ∨ (0 ≤ r32.toInt ∧ r32.toInt ≤ 199) := hw32
              refine lv_istore (lv' := [(4, .int r32), (0, .ref o), (1, .int w1), (2, .int f), (3, .int v1)]) hx hb dX12_isFlagBarred_92 hl (by decide) rfl (fun ls hl => ?_)
              refine lv_iload hx hb dX12_isFlagBarred_94 (lv_at hl 0 rfl) ?_
              refine lv_bipush (v := (-9)) hx hb dX12_isFlagBarred_96 (by decide) ?_
              refine lv_icmp_eq (tgt := 107) hx hb dX12_isFlagBarred_98 (by decide) (fun c33 => ?_) (fun c33 => ?_)
              · have f33 := (ti_eq (a := r32.toInt) (b := (-9)) rfl (by decide)).mp c33
                refine lv_iload hx hb dX12_isFlagBarred_107 (lv_at hl 0 rfl) ?_
                refine lv_bipush (v := (-9)) hx hb dX12_isFlagBarred_109 (by decide) ?_
                refine lv_icmp_eq (tgt := 118) hx hb dX12_isFlagBarred_111 (by decide) (fun c34 => ?_) (fun c34 => ?_)
                · have f34 := (ti_eq (a := r32.toInt) (b := (-9)) rfl (by decide)).mp c34
                  refine lv_iconst (v := 0) hx hb dX12_isFlagBarred_118 (by decide) ?_
                  exact rw_zret (i, q, c, d) hx hb hr hlocks hS (hK.sub (tys' := []) [] rfl) hP hD rfl dX12_isFlagBarred_119 ⟨(show 0 ≤ (0 : Int32).toInt ∧ (0 : Int32).toInt ≤ 1 from by decide), hI, hfi, hfc⟩
                · have f34 := mt (ti_eq (a := r32.toInt) (b := (-9)) rfl (by decide)).mpr c34
                  refine lv_iconst (v := 1) hx hb dX12_isFlagBarred_114 (by decide) ?_
                  refine lv_goto (tgt := 119) hx hb dX12_isFlagBarred_115 (by decide) ?_
                  exact rw_zret (i, q, c, d) hx hb hr hlocks hS (hK.sub (tys' := []) [] rfl) hP hD rfl dX12_isFlagBarred_119 ⟨(show 0 ≤ (1 : Int32).toInt ∧ (1 : Int32).toInt ≤ 1 from by decide), hI, hfi, hfc⟩
              · have f33 := mt (ti_eq (a := r32.toInt) (b := (-9)) rfl (by decide)).mpr c33
                refine lv_aload_n hx hb dX12_isFlagBarred_101 rfl (lv_at hl 1 rfl) ?_
                refine lv_iload hx hb dX12_isFlagBarred_102 (lv_at hl 0 rfl) ?_
                refine al_callv (va_runV (As := [.int r32]) (rest := []) ⟨hx, hb, hml, hown, hts⟩ (s_X12_clashes l D H.size o a t i q c d r32 hI (by omega) (by omega)) (cwV 1 hts gm_X12_isFlagBarred_X12_clashes rfl rfl rfl (by decide +kernel) ⟨Nat.le_of_ble_eq_true rfl, Nat.le_of_ble_eq_true rfl⟩) (pB_V hK hP hD (ci := 12) (q0 := 0) rfl rfl) rfl rfl hl.1 rfl (lv_room (Nat.le_of_ble_eq_true rfl)) dX12_isFlagBarred_104 ⟨Nat.le_of_ble_eq_true rfl, Nat.le_of_ble_eq_true rfl⟩) hS hA hP hD (fun u35 H locs hw35 hP hD hS => ?_)
                obtain ⟨i35, q35, c35, d35⟩ := u35
                have hw35 : True ∧ mInv i35 c35 ∧ (∀ k, k ∉ ([15] : List Nat) → i35 k = i k) ∧ (∀ k, k ∉ ([14] : List Nat) → c35 k = c k) ∧ ((i35 15).toInt = (i 15).toInt + 1) := hw35
                obtain ⟨hw35, hI, hei35, hec35, hxp35_0⟩ := hw35
                have hfi := fr_t hfi hei35 (by decide)
                have hfc := fr_t hfc hec35 (by decide)
                have hP : va_P D vwCl (mW o a t i35 q35 c35 d35) H := hP
                have hD : va_D A (mW o a t i35 q35 c35 d35) := hD
                refine lv_iload hx hb dX12_isFlagBarred_107 (lv_at hl 0 rfl) ?_
                refine lv_bipush (v := (-9)) hx hb dX12_isFlagBarred_109 (by decide) ?_
                refine lv_icmp_eq (tgt := 118) hx hb dX12_isFlagBarred_111 (by decide) (fun c36 => ?_) (fun c36 => ?_)
                · have f36 := (ti_eq (a := r32.toInt) (b := (-9)) rfl (by decide)).mp c36
                  refine lv_iconst (v := 0) hx hb dX12_isFlagBarred_118 (by decide) ?_
                  exact rw_zret (i35, q35, c35, d35) hx hb hr hlocks hS (hK.sub (tys' := []) [] rfl) hP hD rfl dX12_isFlagBarred_119 ⟨(show 0 ≤ (0 : Int32).toInt ∧ (0 : Int32).toInt ≤ 1 from by decide), hI, hfi, hfc⟩
                · have f36 := mt (ti_eq (a := r32.toInt) (b := (-9)) rfl (by decide)).mpr c36
                  refine lv_iconst (v := 1) hx hb dX12_isFlagBarred_114 (by decide) ?_
                  refine lv_goto (tgt := 119) hx hb dX12_isFlagBarred_115 (by decide) ?_
                  exact rw_zret (i35, q35, c35, d35) hx hb hr hlocks hS (hK.sub (tys' := []) [] rfl) hP hD rfl dX12_isFlagBarred_119 ⟨(show 0 ≤ (1 : Int32).toInt ∧ (1 : Int32).toInt ≤ 1 from by decide), hI, hfi, hfc⟩
  · have f3 := (ti_eq (a := r2.toInt) (b := (-9)) rfl (by decide)).mp c3
    refine lv_iload_n hx hb dX12_isFlagBarred_20 rfl (lv_at hl 4 rfl) ?_
    refine lv_iconst (v := 1) hx hb dX12_isFlagBarred_21 (by decide) ?_
    refine lv_icmp_ne (tgt := 47) hx hb dX12_isFlagBarred_22 (by decide) (fun c37 => ?_) (fun c37 => ?_)
    · have f37 := mt (ti_eq (a := v1.toInt) (b := 1) rfl (by decide)).mpr c37
      refine lv_iload hx hb dX12_isFlagBarred_47 (lv_at hl 0 rfl) ?_
      refine lv_bipush (v := (-9)) hx hb dX12_isFlagBarred_49 (by decide) ?_
      refine lv_icmp_ne (tgt := 94) hx hb dX12_isFlagBarred_51 (by decide) (fun c38 => ?_) (fun c38 => ?_)
      · have f38 := mt (ti_eq (a := r2.toInt) (b := (-9)) rfl (by decide)).mpr c38
        refine lv_iload hx hb dX12_isFlagBarred_94 (lv_at hl 0 rfl) ?_
        refine lv_bipush (v := (-9)) hx hb dX12_isFlagBarred_96 (by decide) ?_
        refine lv_icmp_eq (tgt := 107) hx hb dX12_isFlagBarred_98 (by decide) (fun c39 => ?_) (fun c39 => ?_)
        · have f39 := (ti_eq (a := r2.toInt) (b := (-9)) rfl (by decide)).mp c39
          refine lv_iload hx hb dX12_isFlagBarred_107 (lv_at hl 0 rfl) ?_
          refine lv_bipush (v := (-9)) hx hb dX12_isFlagBarred_109 (by decide) ?_
          refine lv_icmp_eq (tgt := 118) hx hb dX12_isFlagBarred_111 (by decide) (fun c40 => ?_) (fun c40 => ?_)
          · have f40 := (ti_eq (a := r2.toInt) (b := (-9)) rfl (by decide)).mp c40
            refine lv_iconst (v := 0) hx hb dX12_isFlagBarred_118 (by decide) ?_
            exact rw_zret (i, q, c, d) hx hb hr hlocks hS (hK.sub (tys' := []) [] rfl) hP hD rfl dX12_isFlagBarred_119 ⟨(show 0 ≤ (0 : Int32).toInt ∧ (0 : Int32).toInt ≤ 1 from by decide), hI, hfi, hfc⟩
          · have f40 := mt (ti_eq (a := r2.toInt) (b := (-9)) rfl (by decide)).mpr c40
            refine lv_iconst (v := 1) hx hb dX12_isFlagBarred_114 (by decide) ?_
            refine lv_goto (tgt := 119) hx hb dX12_isFlagBarred_115 (by decide) ?_
            exact rw_zret (i, q, c, d) hx hb hr hlocks hS (hK.sub (tys' := []) [] rfl) hP hD rfl dX12_isFlagBarred_119 ⟨(show 0 ≤ (1 : Int32).toInt ∧ (1 : Int32).toInt ≤ 1 from by decide), hI, hfi, hfc⟩
        · have f39 := mt (ti_eq (a := r2.toInt) (b := (-9)) rfl (by decide)).mpr c39
          refine lv_aload_n hx hb dX12_isFlagBarred_101 rfl (lv_at hl 1 rfl) ?_
          refine lv_iload hx hb dX12_isFlagBarred_102 (lv_at hl 0 rfl) ?_
          refine al_callv (va_runV (As := [.int r2]) (rest := []) ⟨hx, hb, hml, hown, hts⟩ (s_X12_clashes l D H.size o a t i q c d r2 hI (by omega) (by omega)) (cwV 1 hts gm_X12_isFlagBarred_X12_clashes rfl rfl rfl (by decide +kernel) ⟨Nat.le_of_ble_eq_true rfl, Nat.le_of_ble_eq_true rfl⟩) (pB_V hK hP hD (ci := 12) (q0 := 0) rfl rfl) rfl rfl hl.1 rfl (lv_room (Nat.le_of_ble_eq_true rfl)) dX12_isFlagBarred_104 ⟨Nat.le_of_ble_eq_true rfl, Nat.le_of_ble_eq_true rfl⟩) hS hA hP hD (fun u41 H locs hw41 hP hD hS => ?_)
          obtain ⟨i41, q41, c41, d41⟩ := u41
          have hw41 : True ∧ mInv i41 c41 ∧ (∀ k, k ∉ ([15] : List Nat) → i41 k = i k) ∧ (∀ k, k ∉ ([14] : List Nat) → c41 k = c k) ∧ ((i41 15).toInt = (i 15).toInt + 1) := hw41
          obtain ⟨hw41, hI, hei41, hec41, hxp41_0⟩ := hw41
          have hfi := fr_t hfi hei41 (by decide)
          have hfc := fr_t hfc hec41 (by decide)
          have hP : va_P D vwCl (mW o a t i41 q41 c41 d41) H := hP
          have hD : va_D A (mW o a t i41 q41 c41 d41) := hD
          refine lv_iload hx hb dX12_isFlagBarred_107 (lv_at hl 0 rfl) ?_
          refine lv_bipush (v := (-9)) hx hb dX12_isFlagBarred_109 (by decide) ?_
          refine lv_icmp_eq (tgt := 118) hx hb dX12_isFlagBarred_111 (by decide) (fun c42 => ?_) (fun c42 => ?_)
          · have f42 := (ti_eq (a := r2.toInt) (b := (-9)) rfl (by decide)).mp c42
            refine lv_iconst (v := 0) hx hb dX12_isFlagBarred_118 (by decide) ?_
            exact rw_zret (i41, q41, c41, d41) hx hb hr hlocks hS (hK.sub (tys' := []) [] rfl) hP hD rfl dX12_isFlagBarred_119 ⟨(show 0 ≤ (0 : Int32).toInt ∧ (0 : Int32).toInt ≤ 1 from by decide), hI, hfi, hfc⟩
          · have f42 := mt (ti_eq (a := r2.toInt) (b := (-9)) rfl (by decide)).mpr c42
            refine lv_iconst (v := 1) hx hb dX12_isFlagBarred_114 (by decide) ?_
            refine lv_goto (tgt := 119) hx hb dX12_isFlagBarred_115 (by decide) ?_
            exact rw_zret (i41, q41, c41, d41) hx hb hr hlocks hS (hK.sub (tys' := []) [] rfl) hP hD rfl dX12_isFlagBarred_119 ⟨(show 0 ≤ (1 : Int32).toInt ∧ (1 : Int32).toInt ≤ 1 from by decide), hI, hfi, hfc⟩
      · have f38 := (ti_eq (a := r2.toInt) (b := (-9)) rfl (by decide)).mp c38
        refine lv_iload_n hx hb dX12_isFlagBarred_54 rfl (lv_at hl 3 rfl) ?_
        refine lv_iconst (v := 4) hx hb dX12_isFlagBarred_55 (by decide) ?_
        refine lv_icmp_ne (tgt := 94) hx hb dX12_isFlagBarred_56 (by decide) (fun c43 => ?_) (fun c43 => ?_)
        · have f43 := mt (ti_eq (a := f.toInt) (b := 4) rfl (by decide)).mpr c43
          refine lv_iload hx hb dX12_isFlagBarred_94 (lv_at hl 0 rfl) ?_
          refine lv_bipush (v := (-9)) hx hb dX12_isFlagBarred_96 (by decide) ?_
          refine lv_icmp_eq (tgt := 107) hx hb dX12_isFlagBarred_98 (by decide) (fun c44 => ?_) (fun c44 => ?_)
          · have f44 := (ti_eq (a := r2.toInt) (b := (-9)) rfl (by decide)).mp c44
            refine lv_iload hx hb dX12_isFlagBarred_107 (lv_at hl 0 rfl) ?_
            refine lv_bipush (v := (-9)) hx hb dX12_isFlagBarred_109 (by decide) ?_
            refine lv_icmp_eq (tgt := 118) hx hb dX12_isFlagBarred_111 (by decide) (fun c45 => ?_) (fun c45 => ?_)
            · have f45 := (ti_eq (a := r2.toInt) (b := (-9)) rfl (by decide)).mp c45
              refine lv_iconst (v := 0) hx hb dX12_isFlagBarred_118 (by decide) ?_
              exact rw_zret (i, q, c, d) hx hb hr hlocks hS (hK.sub (tys' := []) [] rfl) hP hD rfl dX12_isFlagBarred_119 ⟨(show 0 ≤ (0 : Int32).toInt ∧ (0 : Int32).toInt ≤ 1 from by decide), hI, hfi, hfc⟩
            · have f45 := mt (ti_eq (a := r2.toInt) (b := (-9)) rfl (by decide)).mpr c45
              refine lv_iconst (v := 1) hx hb dX12_isFlagBarred_114 (by decide) ?_
              refine lv_goto (tgt := 119) hx hb dX12_isFlagBarred_115 (by decide) ?_
              exact rw_zret (i, q, c, d) hx hb hr hlocks hS (hK.sub (tys' := []) [] rfl) hP hD rfl dX12_isFlagBarred_119 ⟨(show 0 ≤ (1 : Int32).toInt ∧ (1 : Int32).toInt ≤ 1 from by decide), hI, hfi, hfc⟩
          · have f44 := mt (ti_eq (a := r2.toInt) (b := (-9)) rfl (by decide)).mpr c44
            refine lv_aload_n hx hb dX12_isFlagBarred_101 rfl (lv_at hl 1 rfl) ?_
            refine lv_iload hx hb dX12_isFlagBarred_102 (lv_at hl 0 rfl) ?_
            refine al_callv (va_runV (As := [.int r2]) (rest := []) ⟨hx, hb, hml, hown, hts⟩ (s_X12_clashes l D H.size o a t i q c d r2 hI (by omega) (by omega)) (cwV 1 hts gm_X12_isFlagBarred_X12_clashes rfl rfl rfl (by decide +kernel) ⟨Nat.le_of_ble_eq_true rfl, Nat.le_of_ble_eq_true rfl⟩) (pB_V hK hP hD (ci := 12) (q0 := 0) rfl rfl) rfl rfl hl.1 rfl (lv_room (Nat.le_of_ble_eq_true rfl)) dX12_isFlagBarred_104 ⟨Nat.le_of_ble_eq_true rfl, Nat.le_of_ble_eq_true rfl⟩) hS hA hP hD (fun u46 H locs hw46 hP hD hS => ?_)
            obtain ⟨i46, q46, c46, d46⟩ := u46
            have hw46 : True ∧ mInv i46 c46 ∧ (∀ k, k ∉ ([15] : List Nat) → i46 k = i k) ∧ (∀ k, k ∉ ([14] : List Nat) → c46 k = c k) ∧ ((i46 15).toInt = (i 15).toInt + 1) := hw46
            obtain ⟨hw46, hI, hei46, hec46, hxp46_0⟩ := hw46
            have hfi := fr_t hfi hei46 (by decide)
            have hfc := fr_t hfc hec46 (by decide)
            have hP : va_P D vwCl (mW o a t i46 q46 c46 d46) H := hP
            have hD : va_D A (mW o a t i46 q46 c46 d46) := hD
            refine lv_iload hx hb dX12_isFlagBarred_107 (lv_at hl 0 rfl) ?_
            refine lv_bipush (v := (-9)) hx hb dX12_isFlagBarred_109 (by decide) ?_
            refine lv_icmp_eq (tgt := 118) hx hb dX12_isFlagBarred_111 (by decide) (fun c47 => ?_) (fun c47 => ?_)
            · have f47 := (ti_eq (a := r2.toInt) (b := (-9)) rfl (by decide)).mp c47
              refine lv_iconst (v := 0) hx hb dX12_isFlagBarred_118 (by decide) ?_
              exact rw_zret (i46, q46, c46, d46) hx hb hr hlocks hS (hK.sub (tys' := []) [] rfl) hP hD rfl dX12_isFlagBarred_119 ⟨(show 0 ≤ (0 : Int32).toInt ∧ (0 : Int32).toInt ≤ 1 from by decide), hI, hfi, hfc⟩
            · have f47 := mt (ti_eq (a := r2.toInt) (b := (-9)) rfl (by decide)).mpr c47
              refine lv_iconst (v := 1) hx hb dX12_isFlagBarred_114 (by decide) ?_
              refine lv_goto (tgt := 119) hx hb dX12_isFlagBarred_115 (by decide) ?_
              exact rw_zret (i46, q46, c46, d46) hx hb hr hlocks hS (hK.sub (tys' := []) [] rfl) hP hD rfl dX12_isFlagBarred_119 ⟨(show 0 ≤ (1 : Int32).toInt ∧ (1 : Int32).toInt ≤ 1 from by decide), hI, hfi, hfc⟩
        · have f43 := (ti_eq (a := f.toInt) (b := 4) rfl (by decide)).mp c43
          refine lv_iload_n hx hb dX12_isFlagBarred_59 rfl (lv_at hl 4 rfl) ?_
          refine lv_if_ne (tgt := 94) hx hb dX12_isFlagBarred_60 (by decide) (fun c48 => ?_) (fun c48 => ?_)
          · have f48 := mt (ti_eq (a := v1.toInt) (b := 0) rfl (by decide)).mpr c48
            refine lv_iload hx hb dX12_isFlagBarred_94 (lv_at hl 0 rfl) ?_
            refine lv_bipush (v := (-9)) hx hb dX12_isFlagBarred_96 (by decide) ?_
            refine lv_icmp_eq (tgt := 107) hx hb dX12_isFlagBarred_98 (by decide) (fun c49 => ?_) (fun c49 => ?_)
            · have f49 := (ti_eq (a := r2.toInt) (b := (-9)) rfl (by decide)).mp c49
              refine lv_iload hx hb dX12_isFlagBarred_107 (lv_at hl 0 rfl) ?_
              refine lv_bipush (v := (-9)) hx hb dX12_isFlagBarred_109 (by decide) ?_
              refine lv_icmp_eq (tgt := 118) hx hb dX12_isFlagBarred_111 (by decide) (fun c50 => ?_) (fun c50 => ?_)
              · have f50 := (ti_eq (a := r2.toInt) (b := (-9)) rfl (by decide)).mp c50
                refine lv_iconst (v := 0) hx hb dX12_isFlagBarred_118 (by decide) ?_
                exact rw_zret (i, q, c, d) hx hb hr hlocks hS (hK.sub (tys' := []) [] rfl) hP hD rfl dX12_isFlagBarred_119 ⟨(show 0 ≤ (0 : Int32).toInt ∧ (0 : Int32).toInt ≤ 1 from by decide), hI, hfi, hfc⟩
              · have f50 := mt (ti_eq (a := r2.toInt) (b := (-9)) rfl (by decide)).mpr c50
                refine lv_iconst (v := 1) hx hb dX12_isFlagBarred_114 (by decide) ?_
                refine lv_goto (tgt := 119) hx hb dX12_isFlagBarred_115 (by decide) ?_
                exact rw_zret (i, q, c, d) hx hb hr hlocks hS (hK.sub (tys' := []) [] rfl) hP hD rfl dX12_isFlagBarred_119 ⟨(show 0 ≤ (1 : Int32).toInt ∧ (1 : Int32).toInt ≤ 1 from by decide), hI, hfi, hfc⟩
            · have f49 := mt (ti_eq (a := r2.toInt) (b := (-9)) rfl (by decide)).mpr c49
              refine lv_aload_n hx hb dX12_isFlagBarred_101 rfl (lv_at hl 1 rfl) ?_
              refine lv_iload hx hb dX12_isFlagBarred_102 (lv_at hl 0 rfl) ?_
              refine al_callv (va_runV (As := [.int r2]) (rest := []) ⟨hx, hb, hml, hown, hts⟩ (s_X12_clashes l D H.size o a t i q c d r2 hI (by omega) (by omega)) (cwV 1 hts gm_X12_isFlagBarred_X12_clashes rfl rfl rfl (by decide +kernel) ⟨Nat.le_of_ble_eq_true rfl, Nat.le_of_ble_eq_true rfl⟩) (pB_V hK hP hD (ci := 12) (q0 := 0) rfl rfl) rfl rfl hl.1 rfl (lv_room (Nat.le_of_ble_eq_true rfl)) dX12_isFlagBarred_104 ⟨Nat.le_of_ble_eq_true rfl, Nat.le_of_ble_eq_true rfl⟩) hS hA hP hD (fun u51 H locs hw51 hP hD hS => ?_)
              obtain ⟨i51, q51, c51, d51⟩ := u51
              have hw51 : True ∧ mInv i51 c51 ∧ (∀ k, k ∉ ([15] : List Nat) → i51 k = i k) ∧ (∀ k, k ∉ ([14] : List Nat) → c51 k = c k) ∧ ((i51 15).toInt = (i 15).toInt + 1) := hw51
              obtain ⟨hw51, hI, hei51, hec51, hxp51_0⟩ := hw51
              have hfi := fr_t hfi hei51 (by decide)
              have hfc := fr_t hfc hec51 (by decide)
              have hP : va_P D vwCl (mW o a t i51 q51 c51 d51) H := hP
              have hD : va_D A (mW o a t i51 q51 c51 d51) := hD
              refine lv_iload hx hb dX12_isFlagBarred_107 (lv_at hl 0 rfl) ?_
              refine lv_bipush (v := (-9)) hx hb dX12_isFlagBarred_109 (by decide) ?_
              refine lv_icmp_eq (tgt := 118) hx hb dX12_isFlagBarred_111 (by decide) (fun c52 => ?_) (fun c52 => ?_)
              · have f52 := (ti_eq (a := r2.toInt) (b := (-9)) rfl (by decide)).mp c52
                refine lv_iconst (v := 0) hx hb dX12_isFlagBarred_118 (by decide) ?_
                exact rw_zret (i51, q51, c51, d51) hx hb hr hlocks hS (hK.sub (tys' := []) [] rfl) hP hD rfl dX12_isFlagBarred_119 ⟨(show 0 ≤ (0 : Int32).toInt ∧ (0 : Int32).toInt ≤ 1 from by decide), hI, hfi, hfc⟩
              · have f52 := mt (ti_eq (a := r2.toInt) (b := (-9)) rfl (by decide)).mpr c52
                refine lv_iconst (v := 1) hx hb dX12_isFlagBarred_114 (by decide) ?_
                refine lv_goto (tgt := 119) hx hb dX12_isFlagBarred_115 (by decide) ?_
                exact rw_zret (i51, q51, c51, d51) hx hb hr hlocks hS (hK.sub (tys' := []) [] rfl) hP hD rfl dX12_isFlagBarred_119 ⟨(show 0 ≤ (1 : Int32).toInt ∧ (1 : Int32).toInt ≤ 1 from by decide), hI, hfi, hfc⟩
          · have f48 := (ti_eq (a := v1.toInt) (b := 0) rfl (by decide)).mp c48
            refine lv_aload_n hx hb dX12_isFlagBarred_63 rfl (lv_at hl 1 rfl) ?_
            refine lv_iload_n hx hb dX12_isFlagBarred_64 rfl (lv_at hl 2 rfl) ?_
            refine ro_calli (va_runV (As := [.int w1]) (rest := []) ⟨hx, hb, hml, hown, hts⟩ (s_X12_placing l D H.size o a t i q c d w1 hI ) (cwV 1 hts gm_X12_isFlagBarred_X12_placing rfl rfl rfl (by decide +kernel) ⟨Nat.le_of_ble_eq_true rfl, Nat.le_of_ble_eq_true rfl⟩) (pA_V hK hP (ci := 12) (q0 := 0) rfl rfl) rfl rfl hl.1 rfl (lv_room (Nat.le_of_ble_eq_true rfl)) dX12_isFlagBarred_65 ⟨Nat.le_of_ble_eq_true rfl, Nat.le_of_ble_eq_true rfl⟩) hS hA hP (fun r53 u53 H locs hw53 hP hS => ?_)
            have hw53 : r53.toInt = -9 ∨ (0 ≤ r53.toInt ∧ r53.toInt ≤ 199) := hw53
            refine lv_bipush (v := (-9)) hx hb dX12_isFlagBarred_68 (by decide) ?_
            refine lv_icmp_eq (tgt := 94) hx hb dX12_isFlagBarred_70 (by decide) (fun c54 => ?_) (fun c54 => ?_)
            · have f54 := (ti_eq (a := r53.toInt) (b := (-9)) rfl (by decide)).mp c54
              refine lv_iload hx hb dX12_isFlagBarred_94 (lv_at hl 0 rfl) ?_
              refine lv_bipush (v := (-9)) hx hb dX12_isFlagBarred_96 (by decide) ?_
              refine lv_icmp_eq (tgt := 107) hx hb dX12_isFlagBarred_98 (by decide) (fun c55 => ?_) (fun c55 => ?_)
              · have f55 := (ti_eq (a := r2.toInt) (b := (-9)) rfl (by decide)).mp c55
                refine lv_iload hx hb dX12_isFlagBarred_107 (lv_at hl 0 rfl) ?_
                refine lv_bipush (v := (-9)) hx hb dX12_isFlagBarred_109 (by decide) ?_
                refine lv_icmp_eq (tgt := 118) hx hb dX12_isFlagBarred_111 (by decide) (fun c56 => ?_) (fun c56 => ?_)
                · have f56 := (ti_eq (a := r2.toInt) (b := (-9)) rfl (by decide)).mp c56
                  refine lv_iconst (v := 0) hx hb dX12_isFlagBarred_118 (by decide) ?_
                  exact rw_zret (i, q, c, d) hx hb hr hlocks hS (hK.sub (tys' := []) [] rfl) hP hD rfl dX12_isFlagBarred_119 ⟨(show 0 ≤ (0 : Int32).toInt ∧ (0 : Int32).toInt ≤ 1 from by decide), hI, hfi, hfc⟩
                · have f56 := mt (ti_eq (a := r2.toInt) (b := (-9)) rfl (by decide)).mpr c56
                  refine lv_iconst (v := 1) hx hb dX12_isFlagBarred_114 (by decide) ?_
                  refine lv_goto (tgt := 119) hx hb dX12_isFlagBarred_115 (by decide) ?_
                  exact rw_zret (i, q, c, d) hx hb hr hlocks hS (hK.sub (tys' := []) [] rfl) hP hD rfl dX12_isFlagBarred_119 ⟨(show 0 ≤ (1 : Int32).toInt ∧ (1 : Int32).toInt ≤ 1 from by decide), hI, hfi, hfc⟩
              · have f55 := mt (ti_eq (a := r2.toInt) (b := (-9)) rfl (by decide)).mpr c55
                refine lv_aload_n hx hb dX12_isFlagBarred_101 rfl (lv_at hl 1 rfl) ?_
                refine lv_iload hx hb dX12_isFlagBarred_102 (lv_at hl 0 rfl) ?_
                refine al_callv (va_runV (As := [.int r2]) (rest := []) ⟨hx, hb, hml, hown, hts⟩ (s_X12_clashes l D H.size o a t i q c d r2 hI (by omega) (by omega)) (cwV 1 hts gm_X12_isFlagBarred_X12_clashes rfl rfl rfl (by decide +kernel) ⟨Nat.le_of_ble_eq_true rfl, Nat.le_of_ble_eq_true rfl⟩) (pB_V hK hP hD (ci := 12) (q0 := 0) rfl rfl) rfl rfl hl.1 rfl (lv_room (Nat.le_of_ble_eq_true rfl)) dX12_isFlagBarred_104 ⟨Nat.le_of_ble_eq_true rfl, Nat.le_of_ble_eq_true rfl⟩) hS hA hP hD (fun u57 H locs hw57 hP hD hS => ?_)
                obtain ⟨i57, q57, c57, d57⟩ := u57
                have hw57 : True ∧ mInv i57 c57 ∧ (∀ k, k ∉ ([15] : List Nat) → i57 k = i k) ∧ (∀ k, k ∉ ([14] : List Nat) → c57 k = c k) ∧ ((i57 15).toInt = (i 15).toInt + 1) := hw57
                obtain ⟨hw57, hI, hei57, hec57, hxp57_0⟩ := hw57
                have hfi := fr_t hfi hei57 (by decide)
                have hfc := fr_t hfc hec57 (by decide)
                have hP : va_P D vwCl (mW o a t i57 q57 c57 d57) H := hP
                have hD : va_D A (mW o a t i57 q57 c57 d57) := hD
                refine lv_iload hx hb dX12_isFlagBarred_107 (lv_at hl 0 rfl) ?_
                refine lv_bipush (v := (-9)) hx hb dX12_isFlagBarred_109 (by decide) ?_
                refine lv_icmp_eq (tgt := 118) hx hb dX12_isFlagBarred_111 (by decide) (fun c58 => ?_) (fun c58 => ?_)
                · have f58 := (ti_eq (a := r2.toInt) (b := (-9)) rfl (by decide)).mp c58
                  refine lv_iconst (v := 0) hx hb dX12_isFlagBarred_118 (by decide) ?_
                  exact rw_zret (i57, q57, c57, d57) hx hb hr hlocks hS (hK.sub (tys' := []) [] rfl) hP hD rfl dX12_isFlagBarred_119 ⟨(show 0 ≤ (0 : Int32).toInt ∧ (0 : Int32).toInt ≤ 1 from by decide), hI, hfi, hfc⟩
                · have f58 := mt (ti_eq (a := r2.toInt) (b := (-9)) rfl (by decide)).mpr c58
                  refine lv_iconst (v := 1) hx hb dX12_isFlagBarred_114 (by decide) ?_
                  refine lv_goto (tgt := 119) hx hb dX12_isFlagBarred_115 (by decide) ?_
                  exact rw_zret (i57, q57, c57, d57) hx hb hr hlocks hS (hK.sub (tys' := []) [] rfl) hP hD rfl dX12_isFlagBarred_119 ⟨(show 0 ≤ (1 : Int32).toInt ∧ (1 : Int32).toInt ≤ 1 from by decide), hI, hfi, hfc⟩
            · have f54 := mt (ti_eq (a := r53.toInt) (b := (-9)) rfl (by decide)).mpr c54
              refine lv_aload_n hx hb dX12_isFlagBarred_73 rfl (lv_at hl 1 rfl) ?_
              refine va_get (D := D) (ci := 12) (v := .ref (a 9)) (C := RX12) (T := TX12) (N := 69) hx hb hts (fun _ h => List.mem_cons_of_mem _ (List.mem_append_right _ h)) hown hK hP 0 rfl rfl 9 (by decide) (hts (.fieldLink RX12 25 "TalePlayModel" "form" "[I") (by decide +kernel)) (fun _ h9 => h9) rfl dX12_isFlagBarred_74 ?_
              refine lv_aload_n hx hb dX12_isFlagBarred_77 rfl (lv_at hl 1 rfl) ?_
              refine lv_iload_n hx hb dX12_isFlagBarred_78 rfl (lv_at hl 2 rfl) ?_
              refine ro_calli (va_runV (As := [.int w1]) (rest := [.ref (a 9)]) ⟨hx, hb, hml, hown, hts⟩ (s_X12_placing l D H.size o a t i q c d w1 hI ) (cwV 1 hts gm_X12_isFlagBarred_X12_placing rfl rfl rfl (by decide +kernel) ⟨Nat.le_of_ble_eq_true rfl, Nat.le_of_ble_eq_true rfl⟩) (pA_V hK hP (ci := 12) (q0 := 0) rfl rfl) rfl rfl hl.1 rfl (lv_room (Nat.le_of_ble_eq_true rfl)) dX12_isFlagBarred_79 ⟨Nat.le_of_ble_eq_true rfl, Nat.le_of_ble_eq_true rfl⟩) hS hA hP (fun r59 u59 H locs hw59 hP hS => ?_)
              have hw59 : r59.toInt = -9 ∨ (0 ≤ r59.toInt ∧ r59.toInt ≤ 199) := hw59
              refine va_iald hx hb hK hP 6 5 rfl rfl (vp_in_iff.mpr (by have h9 : r59.toInt = r59.toInt := rfl; omega)) dX12_isFlagBarred_82 ?_
              refine lv_topi (fun x60 ex60 => ?_)
              have rx60 : 0 ≤ x60.toInt ∧ x60.toInt ≤ 7 := by rw [ex60]; exact hI.2 9 _
              refine lv_iconst (v := 3) hx hb dX12_isFlagBarred_83 (by decide) ?_
              refine lv_icmp_ne (tgt := 94) hx hb dX12_isFlagBarred_84 (by decide) (fun c61 => ?_) (fun c61 => ?_)
              · have f61 := mt (ti_eq (a := x60.toInt) (b := 3) rfl (by decide)).mpr c61
                refine lv_iload hx hb dX12_isFlagBarred_94 (lv_at hl 0 rfl) ?_
                refine lv_bipush (v := (-9)) hx hb dX12_isFlagBarred_96 (by decide) ?_
                refine lv_icmp_eq (tgt := 107) hx hb dX12_isFlagBarred_98 (by decide) (fun c62 => ?_) (fun c62 => ?_)
                · have f62 := (ti_eq (a := r2.toInt) (b := (-9)) rfl (by decide)).mp c62
                  refine lv_iload hx hb dX12_isFlagBarred_107 (lv_at hl 0 rfl) ?_
                  refine lv_bipush (v := (-9)) hx hb dX12_isFlagBarred_109 (by decide) ?_
                  refine lv_icmp_eq (tgt := 118) hx hb dX12_isFlagBarred_111 (by decide) (fun c63 => ?_) (fun c63 => ?_)
                  · have f63 := (ti_eq (a := r2.toInt) (b := (-9)) rfl (by decide)).mp c63
                    refine lv_iconst (v := 0) hx hb dX12_isFlagBarred_118 (by decide) ?_
                    exact rw_zret (i, q, c, d) hx hb hr hlocks hS (hK.sub (tys' := []) [] rfl) hP hD rfl dX12_isFlagBarred_119 ⟨(show 0 ≤ (0 : Int32).toInt ∧ (0 : Int32).toInt ≤ 1 from by decide), hI, hfi, hfc⟩
                  · have f63 := mt (ti_eq (a := r2.toInt) (b := (-9)) rfl (by decide)).mpr c63
                    refine lv_iconst (v := 1) hx hb dX12_isFlagBarred_114 (by decide) ?_
                    refine lv_goto (tgt := 119) hx hb dX12_isFlagBarred_115 (by decide) ?_
                    exact rw_zret (i, q, c, d) hx hb hr hlocks hS (hK.sub (tys' := []) [] rfl) hP hD rfl dX12_isFlagBarred_119 ⟨(show 0 ≤ (1 : Int32).toInt ∧ (1 : Int32).toInt ≤ 1 from by decide), hI, hfi, hfc⟩
                · have f62 := mt (ti_eq (a := r2.toInt) (b := (-9)) rfl (by decide)).mpr c62
                  refine lv_aload_n hx hb dX12_isFlagBarred_101 rfl (lv_at hl 1 rfl) ?_
                  refine lv_iload hx hb dX12_isFlagBarred_102 (lv_at hl 0 rfl) ?_
                  refine al_callv (va_runV (As := [.int r2]) (rest := []) ⟨hx, hb, hml, hown, hts⟩ (s_X12_clashes l D H.size o a t i q c d r2 hI (by omega) (by omega)) (cwV 1 hts gm_X12_isFlagBarred_X12_clashes rfl rfl rfl (by decide +kernel) ⟨Nat.le_of_ble_eq_true rfl, Nat.le_of_ble_eq_true rfl⟩) (pB_V hK hP hD (ci := 12) (q0 := 0) rfl rfl) rfl rfl hl.1 rfl (lv_room (Nat.le_of_ble_eq_true rfl)) dX12_isFlagBarred_104 ⟨Nat.le_of_ble_eq_true rfl, Nat.le_of_ble_eq_true rfl⟩) hS hA hP hD (fun u64 H locs hw64 hP hD hS => ?_)
                  obtain ⟨i64, q64, c64, d64⟩ := u64
                  have hw64 : True ∧ mInv i64 c64 ∧ (∀ k, k ∉ ([15] : List Nat) → i64 k = i k) ∧ (∀ k, k ∉ ([14] : List Nat) → c64 k = c k) ∧ ((i64 15).toInt = (i 15).toInt + 1) := hw64
                  obtain ⟨hw64, hI, hei64, hec64, hxp64_0⟩ := hw64
                  have hfi := fr_t hfi hei64 (by decide)
                  have hfc := fr_t hfc hec64 (by decide)
                  have hP : va_P D vwCl (mW o a t i64 q64 c64 d64) H := hP
                  have hD : va_D A (mW o a t i64 q64 c64 d64) := hD
                  refine lv_iload hx hb dX12_isFlagBarred_107 (lv_at hl 0 rfl) ?_
                  refine lv_bipush (v := (-9)) hx hb dX12_isFlagBarred_109 (by decide) ?_
                  refine lv_icmp_eq (tgt := 118) hx hb dX12_isFlagBarred_111 (by decide) (fun c65 => ?_) (fun c65 => ?_)
                  · have f65 := (ti_eq (a := r2.toInt) (b := (-9)) rfl (by decide)).mp c65
                    refine lv_iconst (v := 0) hx hb dX12_isFlagBarred_118 (by decide) ?_
                    exact rw_zret (i64, q64, c64, d64) hx hb hr hlocks hS (hK.sub (tys' := []) [] rfl) hP hD rfl dX12_isFlagBarred_119 ⟨(show 0 ≤ (0 : Int32).toInt ∧ (0 : Int32).toInt ≤ 1 from by decide), hI, hfi, hfc⟩
                  · have f65 := mt (ti_eq (a := r2.toInt) (b := (-9)) rfl (by decide)).mpr c65
                    refine lv_iconst (v := 1) hx hb dX12_isFlagBarred_114 (by decide) ?_
                    refine lv_goto (tgt := 119) hx hb dX12_isFlagBarred_115 (by decide) ?_
                    exact rw_zret (i64, q64, c64, d64) hx hb hr hlocks hS (hK.sub (tys' := []) [] rfl) hP hD rfl dX12_isFlagBarred_119 ⟨(show 0 ≤ (1 : Int32).toInt ∧ (1 : Int32).toInt ≤ 1 from by decide), hI, hfi, hfc⟩
              · have f61 := (ti_eq (a := x60.toInt) (b := 3) rfl (by decide)).mp c61
                refine lv_aload_n hx hb dX12_isFlagBarred_87 rfl (lv_at hl 1 rfl) ?_
                refine lv_iload_n hx hb dX12_isFlagBarred_88 rfl (lv_at hl 2 rfl) ?_
                refine ro_calli (va_runV (As := [.int w1]) (rest := []) ⟨hx, hb, hml, hown, hts⟩ (s_X12_placing l D H.size o a t i q c d w1 hI ) (cwV 1 hts gm_X12_isFlagBarred_X12_placing rfl rfl rfl (by decide +kernel) ⟨Nat.le_of_ble_eq_true rfl, Nat.le_of_ble_eq_true rfl⟩) (pA_V hK hP (ci := 12) (q0 := 0) rfl rfl) rfl rfl hl.1 rfl (lv_room (Nat.le_of_ble_eq_true rfl)) dX12_isFlagBarred_89 ⟨Nat.le_of_ble_eq_true rfl, Nat.le_of_ble_eq_true rfl⟩) hS hA hP (fun r66 u66 H locs hw66 hP hS => ?_)
                have hw66 : r66.toInt = -9 ∨ (0 ≤ r66.toInt ∧ r66.toInt ≤ 199) := hw66
                refine lv_istore (lv' := [(4, .int r66), (0, .ref o), (1, .int w1), (2, .int f), (3, .int v1)]) hx hb dX12_isFlagBarred_92 hl (by decide) rfl (fun ls hl => ?_)
                refine lv_iload hx hb dX12_isFlagBarred_94 (lv_at hl 0 rfl) ?_
                refine lv_bipush (v := (-9)) hx hb dX12_isFlagBarred_96 (by decide) ?_
                refine lv_icmp_eq (tgt := 107) hx hb dX12_isFlagBarred_98 (by decide) (fun c67 => ?_) (fun c67 => ?_)
                · have f67 := (ti_eq (a := r66.toInt) (b := (-9)) rfl (by decide)).mp c67
                  refine lv_iload hx hb dX12_isFlagBarred_107 (lv_at hl 0 rfl) ?_
                  refine lv_bipush (v := (-9)) hx hb dX12_isFlagBarred_109 (by decide) ?_
                  refine lv_icmp_eq (tgt := 118) hx hb dX12_isFlagBarred_111 (by decide) (fun c68 => ?_) (fun c68 => ?_)
                  · have f68 := (ti_eq (a := r66.toInt) (b := (-9)) rfl (by decide)).mp c68
                    refine lv_iconst (v := 0) hx hb dX12_isFlagBarred_118 (by decide) ?_
                    exact rw_zret (i, q, c, d) hx hb hr hlocks hS (hK.sub (tys' := []) [] rfl) hP hD rfl dX12_isFlagBarred_119 ⟨(show 0 ≤ (0 : Int32).toInt ∧ (0 : Int32).toInt ≤ 1 from by decide), hI, hfi, hfc⟩
                  · have f68 := mt (ti_eq (a := r66.toInt) (b := (-9)) rfl (by decide)).mpr c68
                    refine lv_iconst (v := 1) hx hb dX12_isFlagBarred_114 (by decide) ?_
                    refine lv_goto (tgt := 119) hx hb dX12_isFlagBarred_115 (by decide) ?_
                    exact rw_zret (i, q, c, d) hx hb hr hlocks hS (hK.sub (tys' := []) [] rfl) hP hD rfl dX12_isFlagBarred_119 ⟨(show 0 ≤ (1 : Int32).toInt ∧ (1 : Int32).toInt ≤ 1 from by decide), hI, hfi, hfc⟩
                · have f67 := mt (ti_eq (a := r66.toInt) (b := (-9)) rfl (by decide)).mpr c67
                  refine lv_aload_n hx hb dX12_isFlagBarred_101 rfl (lv_at hl 1 rfl) ?_
                  refine lv_iload hx hb dX12_isFlagBarred_102 (lv_at hl 0 rfl) ?_
                  refine al_callv (va_runV (As := [.int r66]) (rest := []) ⟨hx, hb, hml, hown, hts⟩ (s_X12_clashes l D H.size o a t i q c d r66 hI (by omega) (by omega)) (cwV 1 hts gm_X12_isFlagBarred_X12_clashes rfl rfl rfl (by decide +kernel) ⟨Nat.le_of_ble_eq_true rfl, Nat.le_of_ble_eq_true rfl⟩) (pB_V hK hP hD (ci := 12) (q0 := 0) rfl rfl) rfl rfl hl.1 rfl (lv_room (Nat.le_of_ble_eq_true rfl)) dX12_isFlagBarred_104 ⟨Nat.le_of_ble_eq_true rfl, Nat.le_of_ble_eq_true rfl⟩) hS hA hP hD (fun u69 H locs hw69 hP hD hS => ?_)
                  obtain ⟨i69, q69, c69, d69⟩ := u69
                  have hw69 : True ∧ mInv i69 c69 ∧ (∀ k, k ∉ ([15] : List Nat) → i69 k = i k) ∧ (∀ k, k ∉ ([14] : List Nat) → c69 k = c k) ∧ ((i69 15).toInt = (i 15).toInt + 1) := hw69
                  obtain ⟨hw69, hI, hei69, hec69, hxp69_0⟩ := hw69
                  have hfi := fr_t hfi hei69 (by decide)
                  have hfc := fr_t hfc hec69 (by decide)
                  have hP : va_P D vwCl (mW o a t i69 q69 c69 d69) H := hP
                  have hD : va_D A (mW o a t i69 q69 c69 d69) := hD
                  refine lv_iload hx hb dX12_isFlagBarred_107 (lv_at hl 0 rfl) ?_
                  refine lv_bipush (v := (-9)) hx hb dX12_isFlagBarred_109 (by decide) ?_
                  refine lv_icmp_eq (tgt := 118) hx hb dX12_isFlagBarred_111 (by decide) (fun c70 => ?_) (fun c70 => ?_)
                  · have f70 := (ti_eq (a := r66.toInt) (b := (-9)) rfl (by decide)).mp c70
                    refine lv_iconst (v := 0) hx hb dX12_isFlagBarred_118 (by decide) ?_
                    exact rw_zret (i69, q69, c69, d69) hx hb hr hlocks hS (hK.sub (tys' := []) [] rfl) hP hD rfl dX12_isFlagBarred_119 ⟨(show 0 ≤ (0 : Int32).toInt ∧ (0 : Int32).toInt ≤ 1 from by decide), hI, hfi, hfc⟩
                  · have f70 := mt (ti_eq (a := r66.toInt) (b := (-9)) rfl (by decide)).mpr c70
                    refine lv_iconst (v := 1) hx hb dX12_isFlagBarred_114 (by decide) ?_
                    refine lv_goto (tgt := 119) hx hb dX12_isFlagBarred_115 (by decide) ?_
                    exact rw_zret (i69, q69, c69, d69) hx hb hr hlocks hS (hK.sub (tys' := []) [] rfl) hP hD rfl dX12_isFlagBarred_119 ⟨(show 0 ≤ (1 : Int32).toInt ∧ (1 : Int32).toInt ≤ 1 from by decide), hI, hfi, hfc⟩
    · have f37 := (ti_eq (a := v1.toInt) (b := 1) rfl (by decide)).mp c37
      refine lv_iload_n hx hb dX12_isFlagBarred_25 rfl (lv_at hl 3 rfl) ?_
      refine lv_if_eq (tgt := 34) hx hb dX12_isFlagBarred_26 (by decide) (fun c71 => ?_) (fun c71 => ?_)
      · have f71 := (ti_eq (a := f.toInt) (b := 0) rfl (by decide)).mp c71
        refine lv_aload_n hx hb dX12_isFlagBarred_34 rfl (lv_at hl 1 rfl) ?_
        refine lv_bipush (v := 6) hx hb dX12_isFlagBarred_35 (by decide) ?_
        refine lv_iload_n hx hb dX12_isFlagBarred_37 rfl (lv_at hl 2 rfl) ?_
        refine lv_iconst (v := 1) hx hb dX12_isFlagBarred_38 (by decide) ?_
        refine lv_iload_n hx hb dX12_isFlagBarred_39 rfl (lv_at hl 3 rfl) ?_
        refine lv_isub hx hb dX12_isFlagBarred_40 ?_
        refine lv_topi (fun x72 ex72 => ?_)
        have tx72 := ti_sub (a := 1) (b := f.toInt) ex72 (by decide) rfl (by omega) (by omega)
        refine lv_iconst (v := 1) hx hb dX12_isFlagBarred_41 (by decide) ?_
        refine ro_calli (va_runV (As := [.int 6, .int w1, .int x72, .int 1]) (rest := []) ⟨hx, hb, hml, hown, hts⟩ (s_X12_saidSo l D H.size o a t i q c d 6 w1 x72 1 hI ) (cwV 4 hts gm_X12_isFlagBarred_X12_saidSo rfl rfl rfl (by decide +kernel) ⟨Nat.le_of_ble_eq_true rfl, Nat.le_of_ble_eq_true rfl⟩) (pA_V hK hP (ci := 12) (q0 := 0) rfl rfl) rfl rfl hl.1 rfl (lv_room (Nat.le_of_ble_eq_true rfl)) dX12_isFlagBarred_42 ⟨Nat.le_of_ble_eq_true rfl, Nat.le_of_ble_eq_true rfl⟩) hS hA hP (fun r73 u73 H locs hw73 hP hS => ?_)
        have hw73 : r73.toInt = -9 ∨ (0 ≤ r73.toInt ∧ r73.toInt ≤ 199) := hw73
        refine lv_istore (lv' := [(4, .int r73), (0, .ref o), (1, .int w1), (2, .int f), (3, .int v1)]) hx hb dX12_isFlagBarred_45 hl (by decide) rfl (fun ls hl => ?_)
        refine lv_iload hx hb dX12_isFlagBarred_47 (lv_at hl 0 rfl) ?_
        refine lv_bipush (v := (-9)) hx hb dX12_isFlagBarred_49 (by decide) ?_
        refine lv_icmp_ne (tgt := 94) hx hb dX12_isFlagBarred_51 (by decide) (fun c74 => ?_) (fun c74 => ?_)
        · have f74 := mt (ti_eq (a := r73.toInt) (b := (-9)) rfl (by decide)).mpr c74
          refine lv_iload hx hb dX12_isFlagBarred_94 (lv_at hl 0 rfl) ?_
          refine lv_bipush (v := (-9)) hx hb dX12_isFlagBarred_96 (by decide) ?_
          refine lv_icmp_eq (tgt := 107) hx hb dX12_isFlagBarred_98 (by decide) (fun c75 => ?_) (fun c75 => ?_)
          · have f75 := (ti_eq (a := r73.toInt) (b := (-9)) rfl (by decide)).mp c75
            refine lv_iload hx hb dX12_isFlagBarred_107 (lv_at hl 0 rfl) ?_
            refine lv_bipush (v := (-9)) hx hb dX12_isFlagBarred_109 (by decide) ?_
            refine lv_icmp_eq (tgt := 118) hx hb dX12_isFlagBarred_111 (by decide) (fun c76 => ?_) (fun c76 => ?_)
            · have f76 := (ti_eq (a := r73.toInt) (b := (-9)) rfl (by decide)).mp c76
              refine lv_iconst (v := 0) hx hb dX12_isFlagBarred_118 (by decide) ?_
              exact rw_zret (i, q, c, d) hx hb hr hlocks hS (hK.sub (tys' := []) [] rfl) hP hD rfl dX12_isFlagBarred_119 ⟨(show 0 ≤ (0 : Int32).toInt ∧ (0 : Int32).toInt ≤ 1 from by decide), hI, hfi, hfc⟩
            · have f76 := mt (ti_eq (a := r73.toInt) (b := (-9)) rfl (by decide)).mpr c76
              refine lv_iconst (v := 1) hx hb dX12_isFlagBarred_114 (by decide) ?_
              refine lv_goto (tgt := 119) hx hb dX12_isFlagBarred_115 (by decide) ?_
              exact rw_zret (i, q, c, d) hx hb hr hlocks hS (hK.sub (tys' := []) [] rfl) hP hD rfl dX12_isFlagBarred_119 ⟨(show 0 ≤ (1 : Int32).toInt ∧ (1 : Int32).toInt ≤ 1 from by decide), hI, hfi, hfc⟩
          · have f75 := mt (ti_eq (a := r73.toInt) (b := (-9)) rfl (by decide)).mpr c75
            refine lv_aload_n hx hb dX12_isFlagBarred_101 rfl (lv_at hl 1 rfl) ?_
            refine lv_iload hx hb dX12_isFlagBarred_102 (lv_at hl 0 rfl) ?_
            refine al_callv (va_runV (As := [.int r73]) (rest := []) ⟨hx, hb, hml, hown, hts⟩ (s_X12_clashes l D H.size o a t i q c d r73 hI (by omega) (by omega)) (cwV 1 hts gm_X12_isFlagBarred_X12_clashes rfl rfl rfl (by decide +kernel) ⟨Nat.le_of_ble_eq_true rfl, Nat.le_of_ble_eq_true rfl⟩) (pB_V hK hP hD (ci := 12) (q0 := 0) rfl rfl) rfl rfl hl.1 rfl (lv_room (Nat.le_of_ble_eq_true rfl)) dX12_isFlagBarred_104 ⟨Nat.le_of_ble_eq_true rfl, Nat.le_of_ble_eq_true rfl⟩) hS hA hP hD (fun u77 H locs hw77 hP hD hS => ?_)
            obtain ⟨i77, q77, c77, d77⟩ := u77
            have hw77 : True ∧ mInv i77 c77 ∧ (∀ k, k ∉ ([15] : List Nat) → i77 k = i k) ∧ (∀ k, k ∉ ([14] : List Nat) → c77 k = c k) ∧ ((i77 15).toInt = (i 15).toInt + 1) := hw77
            obtain ⟨hw77, hI, hei77, hec77, hxp77_0⟩ := hw77
            have hfi := fr_t hfi hei77 (by decide)
            have hfc := fr_t hfc hec77 (by decide)
            have hP : va_P D vwCl (mW o a t i77 q77 c77 d77) H := hP
            have hD : va_D A (mW o a t i77 q77 c77 d77) := hD
            refine lv_iload hx hb dX12_isFlagBarred_107 (lv_at hl 0 rfl) ?_
            refine lv_bipush (v := (-9)) hx hb dX12_isFlagBarred_109 (by decide) ?_
            refine lv_icmp_eq (tgt := 118) hx hb dX12_isFlagBarred_111 (by decide) (fun c78 => ?_) (fun c78 => ?_)
            · have f78 := (ti_eq (a := r73.toInt) (b := (-9)) rfl (by decide)).mp c78
              refine lv_iconst (v := 0) hx hb dX12_isFlagBarred_118 (by decide) ?_
              exact rw_zret (i77, q77, c77, d77) hx hb hr hlocks hS (hK.sub (tys' := []) [] rfl) hP hD rfl dX12_isFlagBarred_119 ⟨(show 0 ≤ (0 : Int32).toInt ∧ (0 : Int32).toInt ≤ 1 from by decide), hI, hfi, hfc⟩
            · have f78 := mt (ti_eq (a := r73.toInt) (b := (-9)) rfl (by decide)).mpr c78
              refine lv_iconst (v := 1) hx hb dX12_isFlagBarred_114 (by decide) ?_
              refine lv_goto (tgt := 119) hx hb dX12_isFlagBarred_115 (by decide) ?_
              exact rw_zret (i77, q77, c77, d77) hx hb hr hlocks hS (hK.sub (tys' := []) [] rfl) hP hD rfl dX12_isFlagBarred_119 ⟨(show 0 ≤ (1 : Int32).toInt ∧ (1 : Int32).toInt ≤ 1 from by decide), hI, hfi, hfc⟩
        · have f74 := (ti_eq (a := r73.toInt) (b := (-9)) rfl (by decide)).mp c74
          refine lv_iload_n hx hb dX12_isFlagBarred_54 rfl (lv_at hl 3 rfl) ?_
          refine lv_iconst (v := 4) hx hb dX12_isFlagBarred_55 (by decide) ?_
          refine lv_icmp_ne (tgt := 94) hx hb dX12_isFlagBarred_56 (by decide) (fun c79 => ?_) (fun c79 => ?_)
          · have f79 := mt (ti_eq (a := f.toInt) (b := 4) rfl (by decide)).mpr c79
            refine lv_iload hx hb dX12_isFlagBarred_94 (lv_at hl 0 rfl) ?_
            refine lv_bipush (v := (-9)) hx hb dX12_isFlagBarred_96 (by decide) ?_
            refine lv_icmp_eq (tgt := 107) hx hb dX12_isFlagBarred_98 (by decide) (fun c80 => ?_) (fun c80 => ?_)
            · have f80 := (ti_eq (a := r73.toInt) (b := (-9)) rfl (by decide)).mp c80
              refine lv_iload hx hb dX12_isFlagBarred_107 (lv_at hl 0 rfl) ?_
              refine lv_bipush (v := (-9)) hx hb dX12_isFlagBarred_109 (by decide) ?_
              refine lv_icmp_eq (tgt := 118) hx hb dX12_isFlagBarred_111 (by decide) (fun c81 => ?_) (fun c81 => ?_)
              · have f81 := (ti_eq (a := r73.toInt) (b := (-9)) rfl (by decide)).mp c81
                refine lv_iconst (v := 0) hx hb dX12_isFlagBarred_118 (by decide) ?_
                exact rw_zret (i, q, c, d) hx hb hr hlocks hS (hK.sub (tys' := []) [] rfl) hP hD rfl dX12_isFlagBarred_119 ⟨(show 0 ≤ (0 : Int32).toInt ∧ (0 : Int32).toInt ≤ 1 from by decide), hI, hfi, hfc⟩
              · have f81 := mt (ti_eq (a := r73.toInt) (b := (-9)) rfl (by decide)).mpr c81
                refine lv_iconst (v := 1) hx hb dX12_isFlagBarred_114 (by decide) ?_
                refine lv_goto (tgt := 119) hx hb dX12_isFlagBarred_115 (by decide) ?_
                exact rw_zret (i, q, c, d) hx hb hr hlocks hS (hK.sub (tys' := []) [] rfl) hP hD rfl dX12_isFlagBarred_119 ⟨(show 0 ≤ (1 : Int32).toInt ∧ (1 : Int32).toInt ≤ 1 from by decide), hI, hfi, hfc⟩
            · have f80 := mt (ti_eq (a := r73.toInt) (b := (-9)) rfl (by decide)).mpr c80
              refine lv_aload_n hx hb dX12_isFlagBarred_101 rfl (lv_at hl 1 rfl) ?_
              refine lv_iload hx hb dX12_isFlagBarred_102 (lv_at hl 0 rfl) ?_
              refine al_callv (va_runV (As := [.int r73]) (rest := []) ⟨hx, hb, hml, hown, hts⟩ (s_X12_clashes l D H.size o a t i q c d r73 hI (by omega) (by omega)) (cwV 1 hts gm_X12_isFlagBarred_X12_clashes rfl rfl rfl (by decide +kernel) ⟨Nat.le_of_ble_eq_true rfl, Nat.le_of_ble_eq_true rfl⟩) (pB_V hK hP hD (ci := 12) (q0 := 0) rfl rfl) rfl rfl hl.1 rfl (lv_room (Nat.le_of_ble_eq_true rfl)) dX12_isFlagBarred_104 ⟨Nat.le_of_ble_eq_true rfl, Nat.le_of_ble_eq_true rfl⟩) hS hA hP hD (fun u82 H locs hw82 hP hD hS => ?_)
              obtain ⟨i82, q82, c82, d82⟩ := u82
              have hw82 : True ∧ mInv i82 c82 ∧ (∀ k, k ∉ ([15] : List Nat) → i82 k = i k) ∧ (∀ k, k ∉ ([14] : List Nat) → c82 k = c k) ∧ ((i82 15).toInt = (i 15).toInt + 1) := hw82
              obtain ⟨hw82, hI, hei82, hec82, hxp82_0⟩ := hw82
              have hfi := fr_t hfi hei82 (by decide)
              have hfc := fr_t hfc hec82 (by decide)
              have hP : va_P D vwCl (mW o a t i82 q82 c82 d82) H := hP
              have hD : va_D A (mW o a t i82 q82 c82 d82) := hD
              refine lv_iload hx hb dX12_isFlagBarred_107 (lv_at hl 0 rfl) ?_
              refine lv_bipush (v := (-9)) hx hb dX12_isFlagBarred_109 (by decide) ?_
              refine lv_icmp_eq (tgt := 118) hx hb dX12_isFlagBarred_111 (by decide) (fun c83 => ?_) (fun c83 => ?_)
              · have f83 := (ti_eq (a := r73.toInt) (b := (-9)) rfl (by decide)).mp c83
                refine lv_iconst (v := 0) hx hb dX12_isFlagBarred_118 (by decide) ?_
                exact rw_zret (i82, q82, c82, d82) hx hb hr hlocks hS (hK.sub (tys' := []) [] rfl) hP hD rfl dX12_isFlagBarred_119 ⟨(show 0 ≤ (0 : Int32).toInt ∧ (0 : Int32).toInt ≤ 1 from by decide), hI, hfi, hfc⟩
              · have f83 := mt (ti_eq (a := r73.toInt) (b := (-9)) rfl (by decide)).mpr c83
                refine lv_iconst (v := 1) hx hb dX12_isFlagBarred_114 (by decide) ?_
                refine lv_goto (tgt := 119) hx hb dX12_isFlagBarred_115 (by decide) ?_
                exact rw_zret (i82, q82, c82, d82) hx hb hr hlocks hS (hK.sub (tys' := []) [] rfl) hP hD rfl dX12_isFlagBarred_119 ⟨(show 0 ≤ (1 : Int32).toInt ∧ (1 : Int32).toInt ≤ 1 from by decide), hI, hfi, hfc⟩
          · have f79 := (ti_eq (a := f.toInt) (b := 4) rfl (by decide)).mp c79
            refine lv_iload_n hx hb dX12_isFlagBarred_59 rfl (lv_at hl 4 rfl) ?_
            refine lv_if_ne (tgt := 94) hx hb dX12_isFlagBarred_60 (by decide) (fun c84 => ?_) (fun c84 => ?_)
            · have f84 := mt (ti_eq (a := v1.toInt) (b := 0) rfl (by decide)).mpr c84
              refine lv_iload hx hb dX12_isFlagBarred_94 (lv_at hl 0 rfl) ?_
              refine lv_bipush (v := (-9)) hx hb dX12_isFlagBarred_96 (by decide) ?_
              refine lv_icmp_eq (tgt := 107) hx hb dX12_isFlagBarred_98 (by decide) (fun c85 => ?_) (fun c85 => ?_)
              · have f85 := (ti_eq (a := r73.toInt) (b := (-9)) rfl (by decide)).mp c85
                refine lv_iload hx hb dX12_isFlagBarred_107 (lv_at hl 0 rfl) ?_
                refine lv_bipush (v := (-9)) hx hb dX12_isFlagBarred_109 (by decide) ?_
                refine lv_icmp_eq (tgt := 118) hx hb dX12_isFlagBarred_111 (by decide) (fun c86 => ?_) (fun c86 => ?_)
                · have f86 := (ti_eq (a := r73.toInt) (b := (-9)) rfl (by decide)).mp c86
                  refine lv_iconst (v := 0) hx hb dX12_isFlagBarred_118 (by decide) ?_
                  exact rw_zret (i, q, c, d) hx hb hr hlocks hS (hK.sub (tys' := []) [] rfl) hP hD rfl dX12_isFlagBarred_119 ⟨(show 0 ≤ (0 : Int32).toInt ∧ (0 : Int32).toInt ≤ 1 from by decide), hI, hfi, hfc⟩
                · have f86 := mt (ti_eq (a := r73.toInt) (b := (-9)) rfl (by decide)).mpr c86
                  refine lv_iconst (v := 1) hx hb dX12_isFlagBarred_114 (by decide) ?_
                  refine lv_goto (tgt := 119) hx hb dX12_isFlagBarred_115 (by decide) ?_
                  exact rw_zret (i, q, c, d) hx hb hr hlocks hS (hK.sub (tys' := []) [] rfl) hP hD rfl dX12_isFlagBarred_119 ⟨(show 0 ≤ (1 : Int32).toInt ∧ (1 : Int32).toInt ≤ 1 from by decide), hI, hfi, hfc⟩
              · have f85 := mt (ti_eq (a := r73.toInt) (b := (-9)) rfl (by decide)).mpr c85
                refine lv_aload_n hx hb dX12_isFlagBarred_101 rfl (lv_at hl 1 rfl) ?_
                refine lv_iload hx hb dX12_isFlagBarred_102 (lv_at hl 0 rfl) ?_
                refine al_callv (va_runV (As := [.int r73]) (rest := []) ⟨hx, hb, hml, hown, hts⟩ (s_X12_clashes l D H.size o a t i q c d r73 hI (by omega) (by omega)) (cwV 1 hts gm_X12_isFlagBarred_X12_clashes rfl rfl rfl (by decide +kernel) ⟨Nat.le_of_ble_eq_true rfl, Nat.le_of_ble_eq_true rfl⟩) (pB_V hK hP hD (ci := 12) (q0 := 0) rfl rfl) rfl rfl hl.1 rfl (lv_room (Nat.le_of_ble_eq_true rfl)) dX12_isFlagBarred_104 ⟨Nat.le_of_ble_eq_true rfl, Nat.le_of_ble_eq_true rfl⟩) hS hA hP hD (fun u87 H locs hw87 hP hD hS => ?_)
                obtain ⟨i87, q87, c87, d87⟩ := u87
                have hw87 : True ∧ mInv i87 c87 ∧ (∀ k, k ∉ ([15] : List Nat) → i87 k = i k) ∧ (∀ k, k ∉ ([14] : List Nat) → c87 k = c k) ∧ ((i87 15).toInt = (i 15).toInt + 1) := hw87
                obtain ⟨hw87, hI, hei87, hec87, hxp87_0⟩ := hw87
                have hfi := fr_t hfi hei87 (by decide)
                have hfc := fr_t hfc hec87 (by decide)
                have hP : va_P D vwCl (mW o a t i87 q87 c87 d87) H := hP
                have hD : va_D A (mW o a t i87 q87 c87 d87) := hD
                refine lv_iload hx hb dX12_isFlagBarred_107 (lv_at hl 0 rfl) ?_
                refine lv_bipush (v := (-9)) hx hb dX12_isFlagBarred_109 (by decide) ?_
                refine lv_icmp_eq (tgt := 118) hx hb dX12_isFlagBarred_111 (by decide) (fun c88 => ?_) (fun c88 => ?_)
                · have f88 := (ti_eq (a := r73.toInt) (b := (-9)) rfl (by decide)).mp c88
                  refine lv_iconst (v := 0) hx hb dX12_isFlagBarred_118 (by decide) ?_
                  exact rw_zret (i87, q87, c87, d87) hx hb hr hlocks hS (hK.sub (tys' := []) [] rfl) hP hD rfl dX12_isFlagBarred_119 ⟨(show 0 ≤ (0 : Int32).toInt ∧ (0 : Int32).toInt ≤ 1 from by decide), hI, hfi, hfc⟩
                · have f88 := mt (ti_eq (a := r73.toInt) (b := (-9)) rfl (by decide)).mpr c88
                  refine lv_iconst (v := 1) hx hb dX12_isFlagBarred_114 (by decide) ?_
                  refine lv_goto (tgt := 119) hx hb dX12_isFlagBarred_115 (by decide) ?_
                  exact rw_zret (i87, q87, c87, d87) hx hb hr hlocks hS (hK.sub (tys' := []) [] rfl) hP hD rfl dX12_isFlagBarred_119 ⟨(show 0 ≤ (1 : Int32).toInt ∧ (1 : Int32).toInt ≤ 1 from by decide), hI, hfi, hfc⟩
            · have f84 := (ti_eq (a := v1.toInt) (b := 0) rfl (by decide)).mp c84
              refine lv_aload_n hx hb dX12_isFlagBarred_63 rfl (lv_at hl 1 rfl) ?_
              refine lv_iload_n hx hb dX12_isFlagBarred_64 rfl (lv_at hl 2 rfl) ?_
              refine ro_calli (va_runV (As := [.int w1]) (rest := []) ⟨hx, hb, hml, hown, hts⟩ (s_X12_placing l D H.size o a t i q c d w1 hI ) (cwV 1 hts gm_X12_isFlagBarred_X12_placing rfl rfl rfl (by decide +kernel) ⟨Nat.le_of_ble_eq_true rfl, Nat.le_of_ble_eq_true rfl⟩) (pA_V hK hP (ci := 12) (q0 := 0) rfl rfl) rfl rfl hl.1 rfl (lv_room (Nat.le_of_ble_eq_true rfl)) dX12_isFlagBarred_65 ⟨Nat.le_of_ble_eq_true rfl, Nat.le_of_ble_eq_true rfl⟩) hS hA hP (fun r89 u89 H locs hw89 hP hS => ?_)
              have hw89 : r89.toInt = -9 ∨ (0 ≤ r89.toInt ∧ r89.toInt ≤ 199) := hw89
              refine lv_bipush (v := (-9)) hx hb dX12_isFlagBarred_68 (by decide) ?_
              refine lv_icmp_eq (tgt := 94) hx hb dX12_isFlagBarred_70 (by decide) (fun c90 => ?_) (fun c90 => ?_)
              · have f90 := (ti_eq (a := r89.toInt) (b := (-9)) rfl (by decide)).mp c90
                refine lv_iload hx hb dX12_isFlagBarred_94 (lv_at hl 0 rfl) ?_
                refine lv_bipush (v := (-9)) hx hb dX12_isFlagBarred_96 (by decide) ?_
                refine lv_icmp_eq (tgt := 107) hx hb dX12_isFlagBarred_98 (by decide) (fun c91 => ?_) (fun c91 => ?_)
                · have f91 := (ti_eq (a := r73.toInt) (b := (-9)) rfl (by decide)).mp c91
                  refine lv_iload hx hb dX12_isFlagBarred_107 (lv_at hl 0 rfl) ?_
                  refine lv_bipush (v := (-9)) hx hb dX12_isFlagBarred_109 (by decide) ?_
                  refine lv_icmp_eq (tgt := 118) hx hb dX12_isFlagBarred_111 (by decide) (fun c92 => ?_) (fun c92 => ?_)
                  · have f92 := (ti_eq (a := r73.toInt) (b := (-9)) rfl (by decide)).mp c92
                    refine lv_iconst (v := 0) hx hb dX12_isFlagBarred_118 (by decide) ?_
                    exact rw_zret (i, q, c, d) hx hb hr hlocks hS (hK.sub (tys' := []) [] rfl) hP hD rfl dX12_isFlagBarred_119 ⟨(show 0 ≤ (0 : Int32).toInt ∧ (0 : Int32).toInt ≤ 1 from by decide), hI, hfi, hfc⟩
                  · have f92 := mt (ti_eq (a := r73.toInt) (b := (-9)) rfl (by decide)).mpr c92
                    refine lv_iconst (v := 1) hx hb dX12_isFlagBarred_114 (by decide) ?_
                    refine lv_goto (tgt := 119) hx hb dX12_isFlagBarred_115 (by decide) ?_
                    exact rw_zret (i, q, c, d) hx hb hr hlocks hS (hK.sub (tys' := []) [] rfl) hP hD rfl dX12_isFlagBarred_119 ⟨(show 0 ≤ (1 : Int32).toInt ∧ (1 : Int32).toInt ≤ 1 from by decide), hI, hfi, hfc⟩
                · have f91 := mt (ti_eq (a := r73.toInt) (b := (-9)) rfl (by decide)).mpr c91
                  refine lv_aload_n hx hb dX12_isFlagBarred_101 rfl (lv_at hl 1 rfl) ?_
                  refine lv_iload hx hb dX12_isFlagBarred_102 (lv_at hl 0 rfl) ?_
                  refine al_callv (va_runV (As := [.int r73]) (rest := []) ⟨hx, hb, hml, hown, hts⟩ (s_X12_clashes l D H.size o a t i q c d r73 hI (by omega) (by omega)) (cwV 1 hts gm_X12_isFlagBarred_X12_clashes rfl rfl rfl (by decide +kernel) ⟨Nat.le_of_ble_eq_true rfl, Nat.le_of_ble_eq_true rfl⟩) (pB_V hK hP hD (ci := 12) (q0 := 0) rfl rfl) rfl rfl hl.1 rfl (lv_room (Nat.le_of_ble_eq_true rfl)) dX12_isFlagBarred_104 ⟨Nat.le_of_ble_eq_true rfl, Nat.le_of_ble_eq_true rfl⟩) hS hA hP hD (fun u93 H locs hw93 hP hD hS => ?_)
                  obtain ⟨i93, q93, c93, d93⟩ := u93
                  have hw93 : True ∧ mInv i93 c93 ∧ (∀ k, k ∉ ([15] : List Nat) → i93 k = i k) ∧ (∀ k, k ∉ ([14] : List Nat) → c93 k = c k) ∧ ((i93 15).toInt = (i 15).toInt + 1) := hw93
                  obtain ⟨hw93, hI, hei93, hec93, hxp93_0⟩ := hw93
                  have hfi := fr_t hfi hei93 (by decide)
                  have hfc := fr_t hfc hec93 (by decide)
                  have hP : va_P D vwCl (mW o a t i93 q93 c93 d93) H := hP
                  have hD : va_D A (mW o a t i93 q93 c93 d93) := hD
                  refine lv_iload hx hb dX12_isFlagBarred_107 (lv_at hl 0 rfl) ?_
                  refine lv_bipush (v := (-9)) hx hb dX12_isFlagBarred_109 (by decide) ?_
                  refine lv_icmp_eq (tgt := 118) hx hb dX12_isFlagBarred_111 (by decide) (fun c94 => ?_) (fun c94 => ?_)
                  · have f94 := (ti_eq (a := r73.toInt) (b := (-9)) rfl (by decide)).mp c94
                    refine lv_iconst (v := 0) hx hb dX12_isFlagBarred_118 (by decide) ?_
                    exact rw_zret (i93, q93, c93, d93) hx hb hr hlocks hS (hK.sub (tys' := []) [] rfl) hP hD rfl dX12_isFlagBarred_119 ⟨(show 0 ≤ (0 : Int32).toInt ∧ (0 : Int32).toInt ≤ 1 from by decide), hI, hfi, hfc⟩
                  · have f94 := mt (ti_eq (a := r73.toInt) (b := (-9)) rfl (by decide)).mpr c94
                    refine lv_iconst (v := 1) hx hb dX12_isFlagBarred_114 (by decide) ?_
                    refine lv_goto (tgt := 119) hx hb dX12_isFlagBarred_115 (by decide) ?_
                    exact rw_zret (i93, q93, c93, d93) hx hb hr hlocks hS (hK.sub (tys' := []) [] rfl) hP hD rfl dX12_isFlagBarred_119 ⟨(show 0 ≤ (1 : Int32).toInt ∧ (1 : Int32).toInt ≤ 1 from by decide), hI, hfi, hfc⟩
              · have f90 := mt (ti_eq (a := r89.toInt) (b := (-9)) rfl (by decide)).mpr c90
                refine lv_aload_n hx hb dX12_isFlagBarred_73 rfl (lv_at hl 1 rfl) ?_
                refine va_get (D := D) (ci := 12) (v := .ref (a 9)) (C := RX12) (T := TX12) (N := 69) hx hb hts (fun _ h => List.mem_cons_of_mem _ (List.mem_append_right _ h)) hown hK hP 0 rfl rfl 9 (by decide) (hts (.fieldLink RX12 25 "TalePlayModel" "form" "[I") (by decide +kernel)) (fun _ h9 => h9) rfl dX12_isFlagBarred_74 ?_
                refine lv_aload_n hx hb dX12_isFlagBarred_77 rfl (lv_at hl 1 rfl) ?_
                refine lv_iload_n hx hb dX12_isFlagBarred_78 rfl (lv_at hl 2 rfl) ?_
                refine ro_calli (va_runV (As := [.int w1]) (rest := [.ref (a 9)]) ⟨hx, hb, hml, hown, hts⟩ (s_X12_placing l D H.size o a t i q c d w1 hI ) (cwV 1 hts gm_X12_isFlagBarred_X12_placing rfl rfl rfl (by decide +kernel) ⟨Nat.le_of_ble_eq_true rfl, Nat.le_of_ble_eq_true rfl⟩) (pA_V hK hP (ci := 12) (q0 := 0) rfl rfl) rfl rfl hl.1 rfl (lv_room (Nat.le_of_ble_eq_true rfl)) dX12_isFlagBarred_79 ⟨Nat.le_of_ble_eq_true rfl, Nat.le_of_ble_eq_true rfl⟩) hS hA hP (fun r95 u95 H locs hw95 hP hS => ?_)
                have hw95 : r95.toInt = -9 ∨ (0 ≤ r95.toInt ∧ r95.toInt ≤ 199) := hw95
                refine va_iald hx hb hK hP 6 5 rfl rfl (vp_in_iff.mpr (by have h9 : r95.toInt = r95.toInt := rfl; omega)) dX12_isFlagBarred_82 ?_
                refine lv_topi (fun x96 ex96 => ?_)
                have rx96 : 0 ≤ x96.toInt ∧ x96.toInt ≤ 7 := by rw [ex96]; exact hI.2 9 _
                refine lv_iconst (v := 3) hx hb dX12_isFlagBarred_83 (by decide) ?_
                refine lv_icmp_ne (tgt := 94) hx hb dX12_isFlagBarred_84 (by decide) (fun c97 => ?_) (fun c97 => ?_)
                · have f97 := mt (ti_eq (a := x96.toInt) (b := 3) rfl (by decide)).mpr c97
                  refine lv_iload hx hb dX12_isFlagBarred_94 (lv_at hl 0 rfl) ?_
                  refine lv_bipush (v := (-9)) hx hb dX12_isFlagBarred_96 (by decide) ?_
                  refine lv_icmp_eq (tgt := 107) hx hb dX12_isFlagBarred_98 (by decide) (fun c98 => ?_) (fun c98 => ?_)
                  · have f98 := (ti_eq (a := r73.toInt) (b := (-9)) rfl (by decide)).mp c98
                    refine lv_iload hx hb dX12_isFlagBarred_107 (lv_at hl 0 rfl) ?_
                    refine lv_bipush (v := (-9)) hx hb dX12_isFlagBarred_109 (by decide) ?_
                    refine lv_icmp_eq (tgt := 118) hx hb dX12_isFlagBarred_111 (by decide) (fun c99 => ?_) (fun c99 => ?_)
                    · have f99 := (ti_eq (a := r73.toInt) (b := (-9)) rfl (by decide)).mp c99
                      refine lv_iconst (v := 0) hx hb dX12_isFlagBarred_118 (by decide) ?_
                      exact rw_zret (i, q, c, d) hx hb hr hlocks hS (hK.sub (tys' := []) [] rfl) hP hD rfl dX12_isFlagBarred_119 ⟨(show 0 ≤ (0 : Int32).toInt ∧ (0 : Int32).toInt ≤ 1 from by decide), hI, hfi, hfc⟩
                    · have f99 := mt (ti_eq (a := r73.toInt) (b := (-9)) rfl (by decide)).mpr c99
                      refine lv_iconst (v := 1) hx hb dX12_isFlagBarred_114 (by decide) ?_
                      refine lv_goto (tgt := 119) hx hb dX12_isFlagBarred_115 (by decide) ?_
                      exact rw_zret (i, q, c, d) hx hb hr hlocks hS (hK.sub (tys' := []) [] rfl) hP hD rfl dX12_isFlagBarred_119 ⟨(show 0 ≤ (1 : Int32).toInt ∧ (1 : Int32).toInt ≤ 1 from by decide), hI, hfi, hfc⟩
                  · have f98 := mt (ti_eq (a := r73.toInt) (b := (-9)) rfl (by decide)).mpr c98
                    refine lv_aload_n hx hb dX12_isFlagBarred_101 rfl (lv_at hl 1 rfl) ?_
                    refine lv_iload hx hb dX12_isFlagBarred_102 (lv_at hl 0 rfl) ?_
                    refine al_callv (va_runV (As := [.int r73]) (rest := []) ⟨hx, hb, hml, hown, hts⟩ (s_X12_clashes l D H.size o a t i q c d r73 hI (by omega) (by omega)) (cwV 1 hts gm_X12_isFlagBarred_X12_clashes rfl rfl rfl (by decide +kernel) ⟨Nat.le_of_ble_eq_true rfl, Nat.le_of_ble_eq_true rfl⟩) (pB_V hK hP hD (ci := 12) (q0 := 0) rfl rfl) rfl rfl hl.1 rfl (lv_room (Nat.le_of_ble_eq_true rfl)) dX12_isFlagBarred_104 ⟨Nat.le_of_ble_eq_true rfl, Nat.le_of_ble_eq_true rfl⟩) hS hA hP hD (fun u100 H locs hw100 hP hD hS => ?_)
                    obtain ⟨i100, q100, c100, d100⟩ := u100
                    have hw100 : True ∧ mInv i100 c100 ∧ (∀ k, k ∉ ([15] : List Nat) → i100 k = i k) ∧ (∀ k, k ∉ ([14] : List Nat) → c100 k = c k) ∧ ((i100 15).toInt = (i 15).toInt + 1) := hw100
                    obtain ⟨hw100, hI, hei100, hec100, hxp100_0⟩ := hw100
                    have hfi := fr_t hfi hei100 (by decide)
                    have hfc := fr_t hfc hec100 (by decide)
                    have hP : va_P D vwCl (mW o a t i100 q100 c100 d100) H := hP
                    have hD : va_D A (mW o a t i100 q100 c100 d100) := hD
                    refine lv_iload hx hb dX12_isFlagBarred_107 (lv_at hl 0 rfl) ?_
                    refine lv_bipush (v := (-9)) hx hb dX12_isFlagBarred_109 (by decide) ?_
                    refine lv_icmp_eq (tgt := 118) hx hb dX12_isFlagBarred_111 (by decide) (fun c101 => ?_) (fun c101 => ?_)
                    · have f101 := (ti_eq (a := r73.toInt) (b := (-9)) rfl (by decide)).mp c101
                      refine lv_iconst (v := 0) hx hb dX12_isFlagBarred_118 (by decide) ?_
                      exact rw_zret (i100, q100, c100, d100) hx hb hr hlocks hS (hK.sub (tys' := []) [] rfl) hP hD rfl dX12_isFlagBarred_119 ⟨(show 0 ≤ (0 : Int32).toInt ∧ (0 : Int32).toInt ≤ 1 from by decide), hI, hfi, hfc⟩
                    · have f101 := mt (ti_eq (a := r73.toInt) (b := (-9)) rfl (by decide)).mpr c101
                      refine lv_iconst (v := 1) hx hb dX12_isFlagBarred_114 (by decide) ?_
                      refine lv_goto (tgt := 119) hx hb dX12_isFlagBarred_115 (by decide) ?_
                      exact rw_zret (i100, q100, c100, d100) hx hb hr hlocks hS (hK.sub (tys' := []) [] rfl) hP hD rfl dX12_isFlagBarred_119 ⟨(show 0 ≤ (1 : Int32).toInt ∧ (1 : Int32).toInt ≤ 1 from by decide), hI, hfi, hfc⟩
                · have f97 := (ti_eq (a := x96.toInt) (b := 3) rfl (by decide)).mp c97
                  refine lv_aload_n hx hb dX12_isFlagBarred_87 rfl (lv_at hl 1 rfl) ?_
                  refine lv_iload_n hx hb dX12_isFlagBarred_88 rfl (lv_at hl 2 rfl) ?_
                  refine ro_calli (va_runV (As := [.int w1]) (rest := []) ⟨hx, hb, hml, hown, hts⟩ (s_X12_placing l D H.size o a t i q c d w1 hI ) (cwV 1 hts gm_X12_isFlagBarred_X12_placing rfl rfl rfl (by decide +kernel) ⟨Nat.le_of_ble_eq_true rfl, Nat.le_of_ble_eq_true rfl⟩) (pA_V hK hP (ci := 12) (q0 := 0) rfl rfl) rfl rfl hl.1 rfl (lv_room (Nat.le_of_ble_eq_true rfl)) dX12_isFlagBarred_89 ⟨Nat.le_of_ble_eq_true rfl, Nat.le_of_ble_eq_true rfl⟩) hS hA hP (fun r102 u102 H locs hw102 hP hS => ?_)
                  have hw102 : r102.toInt = -9 ∨ (0 ≤ r102.toInt ∧ r102.toInt ≤ 199) := hw102
                  refine lv_istore (lv' := [(4, .int r102), (0, .ref o), (1, .int w1), (2, .int f), (3, .int v1)]) hx hb dX12_isFlagBarred_92 hl (by decide) rfl (fun ls hl => ?_)
                  refine lv_iload hx hb dX12_isFlagBarred_94 (lv_at hl 0 rfl) ?_
                  refine lv_bipush (v := (-9)) hx hb dX12_isFlagBarred_96 (by decide) ?_
                  refine lv_icmp_eq (tgt := 107) hx hb dX12_isFlagBarred_98 (by decide) (fun c103 => ?_) (fun c103 => ?_)
                  · have f103 := (ti_eq (a := r102.toInt) (b := (-9)) rfl (by decide)).mp c103
                    refine lv_iload hx hb dX12_isFlagBarred_107 (lv_at hl 0 rfl) ?_
                    refine lv_bipush (v := (-9)) hx hb dX12_isFlagBarred_109 (by decide) ?_
                    refine lv_icmp_eq (tgt := 118) hx hb dX12_isFlagBarred_111 (by decide) (fun c104 => ?_) (fun c104 => ?_)
                    · have f104 := (ti_eq (a := r102.toInt) (b := (-9)) rfl (by decide)).mp c104
                      refine lv_iconst (v := 0) hx hb dX12_isFlagBarred_118 (by decide) ?_
                      exact rw_zret (i, q, c, d) hx hb hr hlocks hS (hK.sub (tys' := []) [] rfl) hP hD rfl dX12_isFlagBarred_119 ⟨(show 0 ≤ (0 : Int32).toInt ∧ (0 : Int32).toInt ≤ 1 from by decide), hI, hfi, hfc⟩
                    · have f104 := mt (ti_eq (a := r102.toInt) (b := (-9)) rfl (by decide)).mpr c104
                      refine lv_iconst (v := 1) hx hb dX12_isFlagBarred_114 (by decide) ?_
                      refine lv_goto (tgt := 119) hx hb dX12_isFlagBarred_115 (by decide) ?_
                      exact rw_zret (i, q, c, d) hx hb hr hlocks hS (hK.sub (tys' := []) [] rfl) hP hD rfl dX12_isFlagBarred_119 ⟨(show 0 ≤ (1 : Int32).toInt ∧ (1 : Int32).toInt ≤ 1 from by decide), hI, hfi, hfc⟩
                  · have f103 := mt (ti_eq (a := r102.toInt) (b := (-9)) rfl (by decide)).mpr c103
                    refine lv_aload_n hx hb dX12_isFlagBarred_101 rfl (lv_at hl 1 rfl) ?_
                    refine lv_iload hx hb dX12_isFlagBarred_102 (lv_at hl 0 rfl) ?_
                    refine al_callv (va_runV (As := [.int r102]) (rest := []) ⟨hx, hb, hml, hown, hts⟩ (s_X12_clashes l D H.size o a t i q c d r102 hI (by omega) (by omega)) (cwV 1 hts gm_X12_isFlagBarred_X12_clashes rfl rfl rfl (by decide +kernel) ⟨Nat.le_of_ble_eq_true rfl, Nat.le_of_ble_eq_true rfl⟩) (pB_V hK hP hD (ci := 12) (q0 := 0) rfl rfl) rfl rfl hl.1 rfl (lv_room (Nat.le_of_ble_eq_true rfl)) dX12_isFlagBarred_104 ⟨Nat.le_of_ble_eq_true rfl, Nat.le_of_ble_eq_true rfl⟩) hS hA hP hD (fun u105 H locs hw105 hP hD hS => ?_)
                    obtain ⟨i105, q105, c105, d105⟩ := u105
                    have hw105 : True ∧ mInv i105 c105 ∧ (∀ k, k ∉ ([15] : List Nat) → i105 k = i k) ∧ (∀ k, k ∉ ([14] : List Nat) → c105 k = c k) ∧ ((i105 15).toInt = (i 15).toInt + 1) := hw105
                    obtain ⟨hw105, hI, hei105, hec105, hxp105_0⟩ := hw105
                    have hfi := fr_t hfi hei105 (by decide)
                    have hfc := fr_t hfc hec105 (by decide)
                    have hP : va_P D vwCl (mW o a t i105 q105 c105 d105) H := hP
                    have hD : va_D A (mW o a t i105 q105 c105 d105) := hD
                    refine lv_iload hx hb dX12_isFlagBarred_107 (lv_at hl 0 rfl) ?_
                    refine lv_bipush (v := (-9)) hx hb dX12_isFlagBarred_109 (by decide) ?_
                    refine lv_icmp_eq (tgt := 118) hx hb dX12_isFlagBarred_111 (by decide) (fun c106 => ?_) (fun c106 => ?_)
                    · have f106 := (ti_eq (a := r102.toInt) (b := (-9)) rfl (by decide)).mp c106
                      refine lv_iconst (v := 0) hx hb dX12_isFlagBarred_118 (by decide) ?_
                      exact rw_zret (i105, q105, c105, d105) hx hb hr hlocks hS (hK.sub (tys' := []) [] rfl) hP hD rfl dX12_isFlagBarred_119 ⟨(show 0 ≤ (0 : Int32).toInt ∧ (0 : Int32).toInt ≤ 1 from by decide), hI, hfi, hfc⟩
                    · have f106 := mt (ti_eq (a := r102.toInt) (b := (-9)) rfl (by decide)).mpr c106
                      refine lv_iconst (v := 1) hx hb dX12_isFlagBarred_114 (by decide) ?_
                      refine lv_goto (tgt := 119) hx hb dX12_isFlagBarred_115 (by decide) ?_
                      exact rw_zret (i105, q105, c105, d105) hx hb hr hlocks hS (hK.sub (tys' := []) [] rfl) hP hD rfl dX12_isFlagBarred_119 ⟨(show 0 ≤ (1 : Int32).toInt ∧ (1 : Int32).toInt ≤ 1 from by decide), hI, hfi, hfc⟩
      · have f71 := mt (ti_eq (a := f.toInt) (b := 0) rfl (by decide)).mpr c71
        refine lv_iload_n hx hb dX12_isFlagBarred_29 rfl (lv_at hl 3 rfl) ?_
        refine lv_iconst (v := 1) hx hb dX12_isFlagBarred_30 (by decide) ?_
        refine lv_icmp_ne (tgt := 47) hx hb dX12_isFlagBarred_31 (by decide) (fun c107 => ?_) (fun c107 => ?_)
        · have f107 := mt (ti_eq (a := f.toInt) (b := 1) rfl (by decide)).mpr c107
          refine lv_iload hx hb dX12_isFlagBarred_47 (lv_at hl 0 rfl) ?_
          refine lv_bipush (v := (-9)) hx hb dX12_isFlagBarred_49 (by decide) ?_
          refine lv_icmp_ne (tgt := 94) hx hb dX12_isFlagBarred_51 (by decide) (fun c108 => ?_) (fun c108 => ?_)
          · have f108 := mt (ti_eq (a := r2.toInt) (b := (-9)) rfl (by decide)).mpr c108
            refine lv_iload hx hb dX12_isFlagBarred_94 (lv_at hl 0 rfl) ?_
            refine lv_bipush (v := (-9)) hx hb dX12_isFlagBarred_96 (by decide) ?_
            refine lv_icmp_eq (tgt := 107) hx hb dX12_isFlagBarred_98 (by decide) (fun c109 => ?_) (fun c109 => ?_)
            · have f109 := (ti_eq (a := r2.toInt) (b := (-9)) rfl (by decide)).mp c109
              refine lv_iload hx hb dX12_isFlagBarred_107 (lv_at hl 0 rfl) ?_
              refine lv_bipush (v := (-9)) hx hb dX12_isFlagBarred_109 (by decide) ?_
              refine lv_icmp_eq (tgt := 118) hx hb dX12_isFlagBarred_111 (by decide) (fun c110 => ?_) (fun c110 => ?_)
              · have f110 := (ti_eq (a := r2.toInt) (b := (-9)) rfl (by decide)).mp c110
                refine lv_iconst (v := 0) hx hb dX12_isFlagBarred_118 (by decide) ?_
                exact rw_zret (i, q, c, d) hx hb hr hlocks hS (hK.sub (tys' := []) [] rfl) hP hD rfl dX12_isFlagBarred_119 ⟨(show 0 ≤ (0 : Int32).toInt ∧ (0 : Int32).toInt ≤ 1 from by decide), hI, hfi, hfc⟩
              · have f110 := mt (ti_eq (a := r2.toInt) (b := (-9)) rfl (by decide)).mpr c110
                refine lv_iconst (v := 1) hx hb dX12_isFlagBarred_114 (by decide) ?_
                refine lv_goto (tgt := 119) hx hb dX12_isFlagBarred_115 (by decide) ?_
                exact rw_zret (i, q, c, d) hx hb hr hlocks hS (hK.sub (tys' := []) [] rfl) hP hD rfl dX12_isFlagBarred_119 ⟨(show 0 ≤ (1 : Int32).toInt ∧ (1 : Int32).toInt ≤ 1 from by decide), hI, hfi, hfc⟩
            · have f109 := mt (ti_eq (a := r2.toInt) (b := (-9)) rfl (by decide)).mpr c109
              refine lv_aload_n hx hb dX12_isFlagBarred_101 rfl (lv_at hl 1 rfl) ?_
              refine lv_iload hx hb dX12_isFlagBarred_102 (lv_at hl 0 rfl) ?_
              refine al_callv (va_runV (As := [.int r2]) (rest := []) ⟨hx, hb, hml, hown, hts⟩ (s_X12_clashes l D H.size o a t i q c d r2 hI (by omega) (by omega)) (cwV 1 hts gm_X12_isFlagBarred_X12_clashes rfl rfl rfl (by decide +kernel) ⟨Nat.le_of_ble_eq_true rfl, Nat.le_of_ble_eq_true rfl⟩) (pB_V hK hP hD (ci := 12) (q0 := 0) rfl rfl) rfl rfl hl.1 rfl (lv_room (Nat.le_of_ble_eq_true rfl)) dX12_isFlagBarred_104 ⟨Nat.le_of_ble_eq_true rfl, Nat.le_of_ble_eq_true rfl⟩) hS hA hP hD (fun u111 H locs hw111 hP hD hS => ?_)
              obtain ⟨i111, q111, c111, d111⟩ := u111
              have hw111 : True ∧ mInv i111 c111 ∧ (∀ k, k ∉ ([15] : List Nat) → i111 k = i k) ∧ (∀ k, k ∉ ([14] : List Nat) → c111 k = c k) ∧ ((i111 15).toInt = (i 15).toInt + 1) := hw111
              obtain ⟨hw111, hI, hei111, hec111, hxp111_0⟩ := hw111
              have hfi := fr_t hfi hei111 (by decide)
              have hfc := fr_t hfc hec111 (by decide)
              have hP : va_P D vwCl (mW o a t i111 q111 c111 d111) H := hP
              have hD : va_D A (mW o a t i111 q111 c111 d111) := hD
              refine lv_iload hx hb dX12_isFlagBarred_107 (lv_at hl 0 rfl) ?_
              refine lv_bipush (v := (-9)) hx hb dX12_isFlagBarred_109 (by decide) ?_
              refine lv_icmp_eq (tgt := 118) hx hb dX12_isFlagBarred_111 (by decide) (fun c112 => ?_) (fun c112 => ?_)
              · have f112 := (ti_eq (a := r2.toInt) (b := (-9)) rfl (by decide)).mp c112
                refine lv_iconst (v := 0) hx hb dX12_isFlagBarred_118 (by decide) ?_
                exact rw_zret (i111, q111, c111, d111) hx hb hr hlocks hS (hK.sub (tys' := []) [] rfl) hP hD rfl dX12_isFlagBarred_119 ⟨(show 0 ≤ (0 : Int32).toInt ∧ (0 : Int32).toInt ≤ 1 from by decide), hI, hfi, hfc⟩
              · have f112 := mt (ti_eq (a := r2.toInt) (b := (-9)) rfl (by decide)).mpr c112
                refine lv_iconst (v := 1) hx hb dX12_isFlagBarred_114 (by decide) ?_
                refine lv_goto (tgt := 119) hx hb dX12_isFlagBarred_115 (by decide) ?_
                exact rw_zret (i111, q111, c111, d111) hx hb hr hlocks hS (hK.sub (tys' := []) [] rfl) hP hD rfl dX12_isFlagBarred_119 ⟨(show 0 ≤ (1 : Int32).toInt ∧ (1 : Int32).toInt ≤ 1 from by decide), hI, hfi, hfc⟩
          · have f108 := (ti_eq (a := r2.toInt) (b := (-9)) rfl (by decide)).mp c108
            refine lv_iload_n hx hb dX12_isFlagBarred_54 rfl (lv_at hl 3 rfl) ?_
            refine lv_iconst (v := 4) hx hb dX12_isFlagBarred_55 (by decide) ?_
            refine lv_icmp_ne (tgt := 94) hx hb dX12_isFlagBarred_56 (by decide) (fun c113 => ?_) (fun c113 => ?_)
            · have f113 := mt (ti_eq (a := f.toInt) (b := 4) rfl (by decide)).mpr c113
              refine lv_iload hx hb dX12_isFlagBarred_94 (lv_at hl 0 rfl) ?_
              refine lv_bipush (v := (-9)) hx hb dX12_isFlagBarred_96 (by decide) ?_
              refine lv_icmp_eq (tgt := 107) hx hb dX12_isFlagBarred_98 (by decide) (fun c114 => ?_) (fun c114 => ?_)
              · have f114 := (ti_eq (a := r2.toInt) (b := (-9)) rfl (by decide)).mp c114
                refine lv_iload hx hb dX12_isFlagBarred_107 (lv_at hl 0 rfl) ?_
                refine lv_bipush (v := (-9)) hx hb dX12_isFlagBarred_109 (by decide) ?_
                refine lv_icmp_eq (tgt := 118) hx hb dX12_isFlagBarred_111 (by decide) (fun c115 => ?_) (fun c115 => ?_)
                · have f115 := (ti_eq (a := r2.toInt) (b := (-9)) rfl (by decide)).mp c115
                  refine lv_iconst (v := 0) hx hb dX12_isFlagBarred_118 (by decide) ?_
                  exact rw_zret (i, q, c, d) hx hb hr hlocks hS (hK.sub (tys' := []) [] rfl) hP hD rfl dX12_isFlagBarred_119 ⟨(show 0 ≤ (0 : Int32).toInt ∧ (0 : Int32).toInt ≤ 1 from by decide), hI, hfi, hfc⟩
                · have f115 := mt (ti_eq (a := r2.toInt) (b := (-9)) rfl (by decide)).mpr c115
                  refine lv_iconst (v := 1) hx hb dX12_isFlagBarred_114 (by decide) ?_
                  refine lv_goto (tgt := 119) hx hb dX12_isFlagBarred_115 (by decide) ?_
                  exact rw_zret (i, q, c, d) hx hb hr hlocks hS (hK.sub (tys' := []) [] rfl) hP hD rfl dX12_isFlagBarred_119 ⟨(show 0 ≤ (1 : Int32).toInt ∧ (1 : Int32).toInt ≤ 1 from by decide), hI, hfi, hfc⟩
              · have f114 := mt (ti_eq (a := r2.toInt) (b := (-9)) rfl (by decide)).mpr c114
                refine lv_aload_n hx hb dX12_isFlagBarred_101 rfl (lv_at hl 1 rfl) ?_
                refine lv_iload hx hb dX12_isFlagBarred_102 (lv_at hl 0 rfl) ?_
                refine al_callv (va_runV (As := [.int r2]) (rest := []) ⟨hx, hb, hml, hown, hts⟩ (s_X12_clashes l D H.size o a t i q c d r2 hI (by omega) (by omega)) (cwV 1 hts gm_X12_isFlagBarred_X12_clashes rfl rfl rfl (by decide +kernel) ⟨Nat.le_of_ble_eq_true rfl, Nat.le_of_ble_eq_true rfl⟩) (pB_V hK hP hD (ci := 12) (q0 := 0) rfl rfl) rfl rfl hl.1 rfl (lv_room (Nat.le_of_ble_eq_true rfl)) dX12_isFlagBarred_104 ⟨Nat.le_of_ble_eq_true rfl, Nat.le_of_ble_eq_true rfl⟩) hS hA hP hD (fun u116 H locs hw116 hP hD hS => ?_)
                obtain ⟨i116, q116, c116, d116⟩ := u116
                have hw116 : True ∧ mInv i116 c116 ∧ (∀ k, k ∉ ([15] : List Nat) → i116 k = i k) ∧ (∀ k, k ∉ ([14] : List Nat) → c116 k = c k) ∧ ((i116 15).toInt = (i 15).toInt + 1) := hw116
                obtain ⟨hw116, hI, hei116, hec116, hxp116_0⟩ := hw116
                have hfi := fr_t hfi hei116 (by decide)
                have hfc := fr_t hfc hec116 (by decide)
                have hP : va_P D vwCl (mW o a t i116 q116 c116 d116) H := hP
                have hD : va_D A (mW o a t i116 q116 c116 d116) := hD
                refine lv_iload hx hb dX12_isFlagBarred_107 (lv_at hl 0 rfl) ?_
                refine lv_bipush (v := (-9)) hx hb dX12_isFlagBarred_109 (by decide) ?_
                refine lv_icmp_eq (tgt := 118) hx hb dX12_isFlagBarred_111 (by decide) (fun c117 => ?_) (fun c117 => ?_)
                · have f117 := (ti_eq (a := r2.toInt) (b := (-9)) rfl (by decide)).mp c117
                  refine lv_iconst (v := 0) hx hb dX12_isFlagBarred_118 (by decide) ?_
                  exact rw_zret (i116, q116, c116, d116) hx hb hr hlocks hS (hK.sub (tys' := []) [] rfl) hP hD rfl dX12_isFlagBarred_119 ⟨(show 0 ≤ (0 : Int32).toInt ∧ (0 : Int32).toInt ≤ 1 from by decide), hI, hfi, hfc⟩
                · have f117 := mt (ti_eq (a := r2.toInt) (b := (-9)) rfl (by decide)).mpr c117
                  refine lv_iconst (v := 1) hx hb dX12_isFlagBarred_114 (by decide) ?_
                  refine lv_goto (tgt := 119) hx hb dX12_isFlagBarred_115 (by decide) ?_
                  exact rw_zret (i116, q116, c116, d116) hx hb hr hlocks hS (hK.sub (tys' := []) [] rfl) hP hD rfl dX12_isFlagBarred_119 ⟨(show 0 ≤ (1 : Int32).toInt ∧ (1 : Int32).toInt ≤ 1 from by decide), hI, hfi, hfc⟩
            · have f113 := (ti_eq (a := f.toInt) (b := 4) rfl (by decide)).mp c113
              refine lv_iload_n hx hb dX12_isFlagBarred_59 rfl (lv_at hl 4 rfl) ?_
              refine lv_if_ne (tgt := 94) hx hb dX12_isFlagBarred_60 (by decide) (fun c118 => ?_) (fun c118 => ?_)
              · have f118 := mt (ti_eq (a := v1.toInt) (b := 0) rfl (by decide)).mpr c118
                refine lv_iload hx hb dX12_isFlagBarred_94 (lv_at hl 0 rfl) ?_
                refine lv_bipush (v := (-9)) hx hb dX12_isFlagBarred_96 (by decide) ?_
                refine lv_icmp_eq (tgt := 107) hx hb dX12_isFlagBarred_98 (by decide) (fun c119 => ?_) (fun c119 => ?_)
                · have f119 := (ti_eq (a := r2.toInt) (b := (-9)) rfl (by decide)).mp c119
                  refine lv_iload hx hb dX12_isFlagBarred_107 (lv_at hl 0 rfl) ?_
                  refine lv_bipush (v := (-9)) hx hb dX12_isFlagBarred_109 (by decide) ?_
                  refine lv_icmp_eq (tgt := 118) hx hb dX12_isFlagBarred_111 (by decide) (fun c120 => ?_) (fun c120 => ?_)
                  · have f120 := (ti_eq (a := r2.toInt) (b := (-9)) rfl (by decide)).mp c120
                    refine lv_iconst (v := 0) hx hb dX12_isFlagBarred_118 (by decide) ?_
                    exact rw_zret (i, q, c, d) hx hb hr hlocks hS (hK.sub (tys' := []) [] rfl) hP hD rfl dX12_isFlagBarred_119 ⟨(show 0 ≤ (0 : Int32).toInt ∧ (0 : Int32).toInt ≤ 1 from by decide), hI, hfi, hfc⟩
                  · have f120 := mt (ti_eq (a := r2.toInt) (b := (-9)) rfl (by decide)).mpr c120
                    refine lv_iconst (v := 1) hx hb dX12_isFlagBarred_114 (by decide) ?_
                    refine lv_goto (tgt := 119) hx hb dX12_isFlagBarred_115 (by decide) ?_
                    exact rw_zret (i, q, c, d) hx hb hr hlocks hS (hK.sub (tys' := []) [] rfl) hP hD rfl dX12_isFlagBarred_119 ⟨(show 0 ≤ (1 : Int32).toInt ∧ (1 : Int32).toInt ≤ 1 from by decide), hI, hfi, hfc⟩
                · have f119 := mt (ti_eq (a := r2.toInt) (b := (-9)) rfl (by decide)).mpr c119
                  refine lv_aload_n hx hb dX12_isFlagBarred_101 rfl (lv_at hl 1 rfl) ?_
                  refine lv_iload hx hb dX12_isFlagBarred_102 (lv_at hl 0 rfl) ?_
                  refine al_callv (va_runV (As := [.int r2]) (rest := []) ⟨hx, hb, hml, hown, hts⟩ (s_X12_clashes l D H.size o a t i q c d r2 hI (by omega) (by omega)) (cwV 1 hts gm_X12_isFlagBarred_X12_clashes rfl rfl rfl (by decide +kernel) ⟨Nat.le_of_ble_eq_true rfl, Nat.le_of_ble_eq_true rfl⟩) (pB_V hK hP hD (ci := 12) (q0 := 0) rfl rfl) rfl rfl hl.1 rfl (lv_room (Nat.le_of_ble_eq_true rfl)) dX12_isFlagBarred_104 ⟨Nat.le_of_ble_eq_true rfl, Nat.le_of_ble_eq_true rfl⟩) hS hA hP hD (fun u121 H locs hw121 hP hD hS => ?_)
                  obtain ⟨i121, q121, c121, d121⟩ := u121
                  have hw121 : True ∧ mInv i121 c121 ∧ (∀ k, k ∉ ([15] : List Nat) → i121 k = i k) ∧ (∀ k, k ∉ ([14] : List Nat) → c121 k = c k) ∧ ((i121 15).toInt = (i 15).toInt + 1) := hw121
                  obtain ⟨hw121, hI, hei121, hec121, hxp121_0⟩ := hw121
                  have hfi := fr_t hfi hei121 (by decide)
                  have hfc := fr_t hfc hec121 (by decide)
                  have hP : va_P D vwCl (mW o a t i121 q121 c121 d121) H := hP
                  have hD : va_D A (mW o a t i121 q121 c121 d121) := hD
                  refine lv_iload hx hb dX12_isFlagBarred_107 (lv_at hl 0 rfl) ?_
                  refine lv_bipush (v := (-9)) hx hb dX12_isFlagBarred_109 (by decide) ?_
                  refine lv_icmp_eq (tgt := 118) hx hb dX12_isFlagBarred_111 (by decide) (fun c122 => ?_) (fun c122 => ?_)
                  · have f122 := (ti_eq (a := r2.toInt) (b := (-9)) rfl (by decide)).mp c122
                    refine lv_iconst (v := 0) hx hb dX12_isFlagBarred_118 (by decide) ?_
                    exact rw_zret (i121, q121, c121, d121) hx hb hr hlocks hS (hK.sub (tys' := []) [] rfl) hP hD rfl dX12_isFlagBarred_119 ⟨(show 0 ≤ (0 : Int32).toInt ∧ (0 : Int32).toInt ≤ 1 from by decide), hI, hfi, hfc⟩
                  · have f122 := mt (ti_eq (a := r2.toInt) (b := (-9)) rfl (by decide)).mpr c122
                    refine lv_iconst (v := 1) hx hb dX12_isFlagBarred_114 (by decide) ?_
                    refine lv_goto (tgt := 119) hx hb dX12_isFlagBarred_115 (by decide) ?_
                    exact rw_zret (i121, q121, c121, d121) hx hb hr hlocks hS (hK.sub (tys' := []) [] rfl) hP hD rfl dX12_isFlagBarred_119 ⟨(show 0 ≤ (1 : Int32).toInt ∧ (1 : Int32).toInt ≤ 1 from by decide), hI, hfi, hfc⟩
              · have f118 := (ti_eq (a := v1.toInt) (b := 0) rfl (by decide)).mp c118
                refine lv_aload_n hx hb dX12_isFlagBarred_63 rfl (lv_at hl 1 rfl) ?_
                refine lv_iload_n hx hb dX12_isFlagBarred_64 rfl (lv_at hl 2 rfl) ?_
                refine ro_calli (va_runV (As := [.int w1]) (rest := []) ⟨hx, hb, hml, hown, hts⟩ (s_X12_placing l D H.size o a t i q c d w1 hI ) (cwV 1 hts gm_X12_isFlagBarred_X12_placing rfl rfl rfl (by decide +kernel) ⟨Nat.le_of_ble_eq_true rfl, Nat.le_of_ble_eq_true rfl⟩) (pA_V hK hP (ci := 12) (q0 := 0) rfl rfl) rfl rfl hl.1 rfl (lv_room (Nat.le_of_ble_eq_true rfl)) dX12_isFlagBarred_65 ⟨Nat.le_of_ble_eq_true rfl, Nat.le_of_ble_eq_true rfl⟩) hS hA hP (fun r123 u123 H locs hw123 hP hS => ?_)
                have hw123 : r123.toInt = -9 ∨ (0 ≤ r123.toInt ∧ r123.toInt ≤ 199) := hw123
                refine lv_bipush (v := (-9)) hx hb dX12_isFlagBarred_68 (by decide) ?_
                refine lv_icmp_eq (tgt := 94) hx hb dX12_isFlagBarred_70 (by decide) (fun c124 => ?_) (fun c124 => ?_)
                · have f124 := (ti_eq (a := r123.toInt) (b := (-9)) rfl (by decide)).mp c124
                  refine lv_iload hx hb dX12_isFlagBarred_94 (lv_at hl 0 rfl) ?_
                  refine lv_bipush (v := (-9)) hx hb dX12_isFlagBarred_96 (by decide) ?_
                  refine lv_icmp_eq (tgt := 107) hx hb dX12_isFlagBarred_98 (by decide) (fun c125 => ?_) (fun c125 => ?_)
                  · have f125 := (ti_eq (a := r2.toInt) (b := (-9)) rfl (by decide)).mp c125
                    refine lv_iload hx hb dX12_isFlagBarred_107 (lv_at hl 0 rfl) ?_
                    refine lv_bipush (v := (-9)) hx hb dX12_isFlagBarred_109 (by decide) ?_
                    refine lv_icmp_eq (tgt := 118) hx hb dX12_isFlagBarred_111 (by decide) (fun c126 => ?_) (fun c126 => ?_)
                    · have f126 := (ti_eq (a := r2.toInt) (b := (-9)) rfl (by decide)).mp c126
                      refine lv_iconst (v := 0) hx hb dX12_isFlagBarred_118 (by decide) ?_
                      exact rw_zret (i, q, c, d) hx hb hr hlocks hS (hK.sub (tys' := []) [] rfl) hP hD rfl dX12_isFlagBarred_119 ⟨(show 0 ≤ (0 : Int32).toInt ∧ (0 : Int32).toInt ≤ 1 from by decide), hI, hfi, hfc⟩
                    · have f126 := mt (ti_eq (a := r2.toInt) (b := (-9)) rfl (by decide)).mpr c126
                      refine lv_iconst (v := 1) hx hb dX12_isFlagBarred_114 (by decide) ?_
                      refine lv_goto (tgt := 119) hx hb dX12_isFlagBarred_115 (by decide) ?_
                      exact rw_zret (i, q, c, d) hx hb hr hlocks hS (hK.sub (tys' := []) [] rfl) hP hD rfl dX12_isFlagBarred_119 ⟨(show 0 ≤ (1 : Int32).toInt ∧ (1 : Int32).toInt ≤ 1 from by decide), hI, hfi, hfc⟩
                  · have f125 := mt (ti_eq (a := r2.toInt) (b := (-9)) rfl (by decide)).mpr c125
                    refine lv_aload_n hx hb dX12_isFlagBarred_101 rfl (lv_at hl 1 rfl) ?_
                    refine lv_iload hx hb dX12_isFlagBarred_102 (lv_at hl 0 rfl) ?_
                    refine al_callv (va_runV (As := [.int r2]) (rest := []) ⟨hx, hb, hml, hown, hts⟩ (s_X12_clashes l D H.size o a t i q c d r2 hI (by omega) (by omega)) (cwV 1 hts gm_X12_isFlagBarred_X12_clashes rfl rfl rfl (by decide +kernel) ⟨Nat.le_of_ble_eq_true rfl, Nat.le_of_ble_eq_true rfl⟩) (pB_V hK hP hD (ci := 12) (q0 := 0) rfl rfl) rfl rfl hl.1 rfl (lv_room (Nat.le_of_ble_eq_true rfl)) dX12_isFlagBarred_104 ⟨Nat.le_of_ble_eq_true rfl, Nat.le_of_ble_eq_true rfl⟩) hS hA hP hD (fun u127 H locs hw127 hP hD hS => ?_)
                    obtain ⟨i127, q127, c127, d127⟩ := u127
                    have hw127 : True ∧ mInv i127 c127 ∧ (∀ k, k ∉ ([15] : List Nat) → i127 k = i k) ∧ (∀ k, k ∉ ([14] : List Nat) → c127 k = c k) ∧ ((i127 15).toInt = (i 15).toInt + 1) := hw127
                    obtain ⟨hw127, hI, hei127, hec127, hxp127_0⟩ := hw127
                    have hfi := fr_t hfi hei127 (by decide)
                    have hfc := fr_t hfc hec127 (by decide)
                    have hP : va_P D vwCl (mW o a t i127 q127 c127 d127) H := hP
                    have hD : va_D A (mW o a t i127 q127 c127 d127) := hD
                    refine lv_iload hx hb dX12_isFlagBarred_107 (lv_at hl 0 rfl) ?_
                    refine lv_bipush (v := (-9)) hx hb dX12_isFlagBarred_109 (by decide) ?_
                    refine lv_icmp_eq (tgt := 118) hx hb dX12_isFlagBarred_111 (by decide) (fun c128 => ?_) (fun c128 => ?_)
                    · have f128 := (ti_eq (a := r2.toInt) (b := (-9)) rfl (by decide)).mp c128
                      refine lv_iconst (v := 0) hx hb dX12_isFlagBarred_118 (by decide) ?_
                      exact rw_zret (i127, q127, c127, d127) hx hb hr hlocks hS (hK.sub (tys' := []) [] rfl) hP hD rfl dX12_isFlagBarred_119 ⟨(show 0 ≤ (0 : Int32).toInt ∧ (0 : Int32).toInt ≤ 1 from by decide), hI, hfi, hfc⟩
                    · have f128 := mt (ti_eq (a := r2.toInt) (b := (-9)) rfl (by decide)).mpr c128
                      refine lv_iconst (v := 1) hx hb dX12_isFlagBarred_114 (by decide) ?_
                      refine lv_goto (tgt := 119) hx hb dX12_isFlagBarred_115 (by decide) ?_
                      exact rw_zret (i127, q127, c127, d127) hx hb hr hlocks hS (hK.sub (tys' := []) [] rfl) hP hD rfl dX12_isFlagBarred_119 ⟨(show 0 ≤ (1 : Int32).toInt ∧ (1 : Int32).toInt ≤ 1 from by decide), hI, hfi, hfc⟩
                · have f124 := mt (ti_eq (a := r123.toInt) (b := (-9)) rfl (by decide)).mpr c124
                  refine lv_aload_n hx hb dX12_isFlagBarred_73 rfl (lv_at hl 1 rfl) ?_
                  refine va_get (D := D) (ci := 12) (v := .ref (a 9)) (C := RX12) (T := TX12) (N := 69) hx hb hts (fun _ h => List.mem_cons_of_mem _ (List.mem_append_right _ h)) hown hK hP 0 rfl rfl 9 (by decide) (hts (.fieldLink RX12 25 "TalePlayModel" "form" "[I") (by decide +kernel)) (fun _ h9 => h9) rfl dX12_isFlagBarred_74 ?_
                  refine lv_aload_n hx hb dX12_isFlagBarred_77 rfl (lv_at hl 1 rfl) ?_
                  refine lv_iload_n hx hb dX12_isFlagBarred_78 rfl (lv_at hl 2 rfl) ?_
                  refine ro_calli (va_runV (As := [.int w1]) (rest := [.ref (a 9)]) ⟨hx, hb, hml, hown, hts⟩ (s_X12_placing l D H.size o a t i q c d w1 hI ) (cwV 1 hts gm_X12_isFlagBarred_X12_placing rfl rfl rfl (by decide +kernel) ⟨Nat.le_of_ble_eq_true rfl, Nat.le_of_ble_eq_true rfl⟩) (pA_V hK hP (ci := 12) (q0 := 0) rfl rfl) rfl rfl hl.1 rfl (lv_room (Nat.le_of_ble_eq_true rfl)) dX12_isFlagBarred_79 ⟨Nat.le_of_ble_eq_true rfl, Nat.le_of_ble_eq_true rfl⟩) hS hA hP (fun r129 u129 H locs hw129 hP hS => ?_)
                  have hw129 : r129.toInt = -9 ∨ (0 ≤ r129.toInt ∧ r129.toInt ≤ 199) := hw129
                  refine va_iald hx hb hK hP 6 5 rfl rfl (vp_in_iff.mpr (by have h9 : r129.toInt = r129.toInt := rfl; omega)) dX12_isFlagBarred_82 ?_
                  refine lv_topi (fun x130 ex130 => ?_)
                  have rx130 : 0 ≤ x130.toInt ∧ x130.toInt ≤ 7 := by rw [ex130]; exact hI.2 9 _
                  refine lv_iconst (v := 3) hx hb dX12_isFlagBarred_83 (by decide) ?_
                  refine lv_icmp_ne (tgt := 94) hx hb dX12_isFlagBarred_84 (by decide) (fun c131 => ?_) (fun c131 => ?_)
                  · have f131 := mt (ti_eq (a := x130.toInt) (b := 3) rfl (by decide)).mpr c131
                    refine lv_iload hx hb dX12_isFlagBarred_94 (lv_at hl 0 rfl) ?_
                    refine lv_bipush (v := (-9)) hx hb dX12_isFlagBarred_96 (by decide) ?_
                    refine lv_icmp_eq (tgt := 107) hx hb dX12_isFlagBarred_98 (by decide) (fun c132 => ?_) (fun c132 => ?_)
                    · have f132 := (ti_eq (a := r2.toInt) (b := (-9)) rfl (by decide)).mp c132
                      refine lv_iload hx hb dX12_isFlagBarred_107 (lv_at hl 0 rfl) ?_
                      refine lv_bipush (v := (-9)) hx hb dX12_isFlagBarred_109 (by decide) ?_
                      refine lv_icmp_eq (tgt := 118) hx hb dX12_isFlagBarred_111 (by decide) (fun c133 => ?_) (fun c133 => ?_)
                      · have f133 := (ti_eq (a := r2.toInt) (b := (-9)) rfl (by decide)).mp c133
                        refine lv_iconst (v := 0) hx hb dX12_isFlagBarred_118 (by decide) ?_
                        exact rw_zret (i, q, c, d) hx hb hr hlocks hS (hK.sub (tys' := []) [] rfl) hP hD rfl dX12_isFlagBarred_119 ⟨(show 0 ≤ (0 : Int32).toInt ∧ (0 : Int32).toInt ≤ 1 from by decide), hI, hfi, hfc⟩
                      · have f133 := mt (ti_eq (a := r2.toInt) (b := (-9)) rfl (by decide)).mpr c133
                        refine lv_iconst (v := 1) hx hb dX12_isFlagBarred_114 (by decide) ?_
                        refine lv_goto (tgt := 119) hx hb dX12_isFlagBarred_115 (by decide) ?_
                        exact rw_zret (i, q, c, d) hx hb hr hlocks hS (hK.sub (tys' := []) [] rfl) hP hD rfl dX12_isFlagBarred_119 ⟨(show 0 ≤ (1 : Int32).toInt ∧ (1 : Int32).toInt ≤ 1 from by decide), hI, hfi, hfc⟩
                    · have f132 := mt (ti_eq (a := r2.toInt) (b := (-9)) rfl (by decide)).mpr c132
                      refine lv_aload_n hx hb dX12_isFlagBarred_101 rfl (lv_at hl 1 rfl) ?_
                      refine lv_iload hx hb dX12_isFlagBarred_102 (lv_at hl 0 rfl) ?_
                      refine al_callv (va_runV (As := [.int r2]) (rest := []) ⟨hx, hb, hml, hown, hts⟩ (s_X12_clashes l D H.size o a t i q c d r2 hI (by omega) (by omega)) (cwV 1 hts gm_X12_isFlagBarred_X12_clashes rfl rfl rfl (by decide +kernel) ⟨Nat.le_of_ble_eq_true rfl, Nat.le_of_ble_eq_true rfl⟩) (pB_V hK hP hD (ci := 12) (q0 := 0) rfl rfl) rfl rfl hl.1 rfl (lv_room (Nat.le_of_ble_eq_true rfl)) dX12_isFlagBarred_104 ⟨Nat.le_of_ble_eq_true rfl, Nat.le_of_ble_eq_true rfl⟩) hS hA hP hD (fun u134 H locs hw134 hP hD hS => ?_)
                      obtain ⟨i134, q134, c134, d134⟩ := u134
                      have hw134 : True ∧ mInv i134 c134 ∧ (∀ k, k ∉ ([15] : List Nat) → i134 k = i k) ∧ (∀ k, k ∉ ([14] : List Nat) → c134 k = c k) ∧ ((i134 15).toInt = (i 15).toInt + 1) := hw134
                      obtain ⟨hw134, hI, hei134, hec134, hxp134_0⟩ := hw134
                      have hfi := fr_t hfi hei134 (by decide)
                      have hfc := fr_t hfc hec134 (by decide)
                      have hP : va_P D vwCl (mW o a t i134 q134 c134 d134) H := hP
                      have hD : va_D A (mW o a t i134 q134 c134 d134) := hD
                      refine lv_iload hx hb dX12_isFlagBarred_107 (lv_at hl 0 rfl) ?_
                      refine lv_bipush (v := (-9)) hx hb dX12_isFlagBarred_109 (by decide) ?_
                      refine lv_icmp_eq (tgt := 118) hx hb dX12_isFlagBarred_111 (by decide) (fun c135 => ?_) (fun c135 => ?_)
                      · have f135 := (ti_eq (a := r2.toInt) (b := (-9)) rfl (by decide)).mp c135
                        refine lv_iconst (v := 0) hx hb dX12_isFlagBarred_118 (by decide) ?_
                        exact rw_zret (i134, q134, c134, d134) hx hb hr hlocks hS (hK.sub (tys' := []) [] rfl) hP hD rfl dX12_isFlagBarred_119 ⟨(show 0 ≤ (0 : Int32).toInt ∧ (0 : Int32).toInt ≤ 1 from by decide), hI, hfi, hfc⟩
                      · have f135 := mt (ti_eq (a := r2.toInt) (b := (-9)) rfl (by decide)).mpr c135
                        refine lv_iconst (v := 1) hx hb dX12_isFlagBarred_114 (by decide) ?_
                        refine lv_goto (tgt := 119) hx hb dX12_isFlagBarred_115 (by decide) ?_
                        exact rw_zret (i134, q134, c134, d134) hx hb hr hlocks hS (hK.sub (tys' := []) [] rfl) hP hD rfl dX12_isFlagBarred_119 ⟨(show 0 ≤ (1 : Int32).toInt ∧ (1 : Int32).toInt ≤ 1 from by decide), hI, hfi, hfc⟩
                  · have f131 := (ti_eq (a := x130.toInt) (b := 3) rfl (by decide)).mp c131
                    refine lv_aload_n hx hb dX12_isFlagBarred_87 rfl (lv_at hl 1 rfl) ?_
                    refine lv_iload_n hx hb dX12_isFlagBarred_88 rfl (lv_at hl 2 rfl) ?_
                    refine ro_calli (va_runV (As := [.int w1]) (rest := []) ⟨hx, hb, hml, hown, hts⟩ (s_X12_placing l D H.size o a t i q c d w1 hI ) (cwV 1 hts gm_X12_isFlagBarred_X12_placing rfl rfl rfl (by decide +kernel) ⟨Nat.le_of_ble_eq_true rfl, Nat.le_of_ble_eq_true rfl⟩) (pA_V hK hP (ci := 12) (q0 := 0) rfl rfl) rfl rfl hl.1 rfl (lv_room (Nat.le_of_ble_eq_true rfl)) dX12_isFlagBarred_89 ⟨Nat.le_of_ble_eq_true rfl, Nat.le_of_ble_eq_true rfl⟩) hS hA hP (fun r136 u136 H locs hw136 hP hS => ?_)
                    have hw136 : r136.toInt = -9 ∨ (0 ≤ r136.toInt ∧ r136.toInt ≤ 199) := hw136
                    refine lv_istore (lv' := [(4, .int r136), (0, .ref o), (1, .int w1), (2, .int f), (3, .int v1)]) hx hb dX12_isFlagBarred_92 hl (by decide) rfl (fun ls hl => ?_)
                    refine lv_iload hx hb dX12_isFlagBarred_94 (lv_at hl 0 rfl) ?_
                    refine lv_bipush (v := (-9)) hx hb dX12_isFlagBarred_96 (by decide) ?_
                    refine lv_icmp_eq (tgt := 107) hx hb dX12_isFlagBarred_98 (by decide) (fun c137 => ?_) (fun c137 => ?_)
                    · have f137 := (ti_eq (a := r136.toInt) (b := (-9)) rfl (by decide)).mp c137
                      refine lv_iload hx hb dX12_isFlagBarred_107 (lv_at hl 0 rfl) ?_
                      refine lv_bipush (v := (-9)) hx hb dX12_isFlagBarred_109 (by decide) ?_
                      refine lv_icmp_eq (tgt := 118) hx hb dX12_isFlagBarred_111 (by decide) (fun c138 => ?_) (fun c138 => ?_)
                      · have f138 := (ti_eq (a := r136.toInt) (b := (-9)) rfl (by decide)).mp c138
                        refine lv_iconst (v := 0) hx hb dX12_isFlagBarred_118 (by decide) ?_
                        exact rw_zret (i, q, c, d) hx hb hr hlocks hS (hK.sub (tys' := []) [] rfl) hP hD rfl dX12_isFlagBarred_119 ⟨(show 0 ≤ (0 : Int32).toInt ∧ (0 : Int32).toInt ≤ 1 from by decide), hI, hfi, hfc⟩
                      · have f138 := mt (ti_eq (a := r136.toInt) (b := (-9)) rfl (by decide)).mpr c138
                        refine lv_iconst (v := 1) hx hb dX12_isFlagBarred_114 (by decide) ?_
                        refine lv_goto (tgt := 119) hx hb dX12_isFlagBarred_115 (by decide) ?_
                        exact rw_zret (i, q, c, d) hx hb hr hlocks hS (hK.sub (tys' := []) [] rfl) hP hD rfl dX12_isFlagBarred_119 ⟨(show 0 ≤ (1 : Int32).toInt ∧ (1 : Int32).toInt ≤ 1 from by decide), hI, hfi, hfc⟩
                    · have f137 := mt (ti_eq (a := r136.toInt) (b := (-9)) rfl (by decide)).mpr c137
                      refine lv_aload_n hx hb dX12_isFlagBarred_101 rfl (lv_at hl 1 rfl) ?_
                      refine lv_iload hx hb dX12_isFlagBarred_102 (lv_at hl 0 rfl) ?_
                      refine al_callv (va_runV (As := [.int r136]) (rest := []) ⟨hx, hb, hml, hown, hts⟩ (s_X12_clashes l D H.size o a t i q c d r136 hI (by omega) (by omega)) (cwV 1 hts gm_X12_isFlagBarred_X12_clashes rfl rfl rfl (by decide +kernel) ⟨Nat.le_of_ble_eq_true rfl, Nat.le_of_ble_eq_true rfl⟩) (pB_V hK hP hD (ci := 12) (q0 := 0) rfl rfl) rfl rfl hl.1 rfl (lv_room (Nat.le_of_ble_eq_true rfl)) dX12_isFlagBarred_104 ⟨Nat.le_of_ble_eq_true rfl, Nat.le_of_ble_eq_true rfl⟩) hS hA hP hD (fun u139 H locs hw139 hP hD hS => ?_)
                      obtain ⟨i139, q139, c139, d139⟩ := u139
                      have hw139 : True ∧ mInv i139 c139 ∧ (∀ k, k ∉ ([15] : List Nat) → i139 k = i k) ∧ (∀ k, k ∉ ([14] : List Nat) → c139 k = c k) ∧ ((i139 15).toInt = (i 15).toInt + 1) := hw139
                      obtain ⟨hw139, hI, hei139, hec139, hxp139_0⟩ := hw139
                      have hfi := fr_t hfi hei139 (by decide)
                      have hfc := fr_t hfc hec139 (by decide)
                      have hP : va_P D vwCl (mW o a t i139 q139 c139 d139) H := hP
                      have hD : va_D A (mW o a t i139 q139 c139 d139) := hD
                      refine lv_iload hx hb dX12_isFlagBarred_107 (lv_at hl 0 rfl) ?_
                      refine lv_bipush (v := (-9)) hx hb dX12_isFlagBarred_109 (by decide) ?_
                      refine lv_icmp_eq (tgt := 118) hx hb dX12_isFlagBarred_111 (by decide) (fun c140 => ?_) (fun c140 => ?_)
                      · have f140 := (ti_eq (a := r136.toInt) (b := (-9)) rfl (by decide)).mp c140
                        refine lv_iconst (v := 0) hx hb dX12_isFlagBarred_118 (by decide) ?_
                        exact rw_zret (i139, q139, c139, d139) hx hb hr hlocks hS (hK.sub (tys' := []) [] rfl) hP hD rfl dX12_isFlagBarred_119 ⟨(show 0 ≤ (0 : Int32).toInt ∧ (0 : Int32).toInt ≤ 1 from by decide), hI, hfi, hfc⟩
                      · have f140 := mt (ti_eq (a := r136.toInt) (b := (-9)) rfl (by decide)).mpr c140
                        refine lv_iconst (v := 1) hx hb dX12_isFlagBarred_114 (by decide) ?_
                        refine lv_goto (tgt := 119) hx hb dX12_isFlagBarred_115 (by decide) ?_
                        exact rw_zret (i139, q139, c139, d139) hx hb hr hlocks hS (hK.sub (tys' := []) [] rfl) hP hD rfl dX12_isFlagBarred_119 ⟨(show 0 ≤ (1 : Int32).toInt ∧ (1 : Int32).toInt ≤ 1 from by decide), hI, hfi, hfc⟩
        · have f107 := (ti_eq (a := f.toInt) (b := 1) rfl (by decide)).mp c107
          refine lv_aload_n hx hb dX12_isFlagBarred_34 rfl (lv_at hl 1 rfl) ?_
          refine lv_bipush (v := 6) hx hb dX12_isFlagBarred_35 (by decide) ?_
          refine lv_iload_n hx hb dX12_isFlagBarred_37 rfl (lv_at hl 2 rfl) ?_
          refine lv_iconst (v := 1) hx hb dX12_isFlagBarred_38 (by decide) ?_
          refine lv_iload_n hx hb dX12_isFlagBarred_39 rfl (lv_at hl 3 rfl) ?_
          refine lv_isub hx hb dX12_isFlagBarred_40 ?_
          refine lv_topi (fun x141 ex141 => ?_)
          have tx141 := ti_sub (a := 1) (b := f.toInt) ex141 (by decide) rfl (by omega) (by omega)
          refine lv_iconst (v := 1) hx hb dX12_isFlagBarred_41 (by decide) ?_
          refine ro_calli (va_runV (As := [.int 6, .int w1, .int x141, .int 1]) (rest := []) ⟨hx, hb, hml, hown, hts⟩ (s_X12_saidSo l D H.size o a t i q c d 6 w1 x141 1 hI ) (cwV 4 hts gm_X12_isFlagBarred_X12_saidSo rfl rfl rfl (by decide +kernel) ⟨Nat.le_of_ble_eq_true rfl, Nat.le_of_ble_eq_true rfl⟩) (pA_V hK hP (ci := 12) (q0 := 0) rfl rfl) rfl rfl hl.1 rfl (lv_room (Nat.le_of_ble_eq_true rfl)) dX12_isFlagBarred_42 ⟨Nat.le_of_ble_eq_true rfl, Nat.le_of_ble_eq_true rfl⟩) hS hA hP (fun r142 u142 H locs hw142 hP hS => ?_)
          have hw142 : r142.toInt = -9 ∨ (0 ≤ r142.toInt ∧ r142.toInt ≤ 199) := hw142
          refine lv_istore (lv' := [(4, .int r142), (0, .ref o), (1, .int w1), (2, .int f), (3, .int v1)]) hx hb dX12_isFlagBarred_45 hl (by decide) rfl (fun ls hl => ?_)
          refine lv_iload hx hb dX12_isFlagBarred_47 (lv_at hl 0 rfl) ?_
          refine lv_bipush (v := (-9)) hx hb dX12_isFlagBarred_49 (by decide) ?_
          refine lv_icmp_ne (tgt := 94) hx hb dX12_isFlagBarred_51 (by decide) (fun c143 => ?_) (fun c143 => ?_)
          · have f143 := mt (ti_eq (a := r142.toInt) (b := (-9)) rfl (by decide)).mpr c143
            refine lv_iload hx hb dX12_isFlagBarred_94 (lv_at hl 0 rfl) ?_
            refine lv_bipush (v := (-9)) hx hb dX12_isFlagBarred_96 (by decide) ?_
            refine lv_icmp_eq (tgt := 107) hx hb dX12_isFlagBarred_98 (by decide) (fun c144 => ?_) (fun c144 => ?_)
            · have f144 := (ti_eq (a := r142.toInt) (b := (-9)) rfl (by decide)).mp c144
              refine lv_iload hx hb dX12_isFlagBarred_107 (lv_at hl 0 rfl) ?_
              refine lv_bipush (v := (-9)) hx hb dX12_isFlagBarred_109 (by decide) ?_
              refine lv_icmp_eq (tgt := 118) hx hb dX12_isFlagBarred_111 (by decide) (fun c145 => ?_) (fun c145 => ?_)
              · have f145 := (ti_eq (a := r142.toInt) (b := (-9)) rfl (by decide)).mp c145
                refine lv_iconst (v := 0) hx hb dX12_isFlagBarred_118 (by decide) ?_
                exact rw_zret (i, q, c, d) hx hb hr hlocks hS (hK.sub (tys' := []) [] rfl) hP hD rfl dX12_isFlagBarred_119 ⟨(show 0 ≤ (0 : Int32).toInt ∧ (0 : Int32).toInt ≤ 1 from by decide), hI, hfi, hfc⟩
              · have f145 := mt (ti_eq (a := r142.toInt) (b := (-9)) rfl (by decide)).mpr c145
                refine lv_iconst (v := 1) hx hb dX12_isFlagBarred_114 (by decide) ?_
                refine lv_goto (tgt := 119) hx hb dX12_isFlagBarred_115 (by decide) ?_
                exact rw_zret (i, q, c, d) hx hb hr hlocks hS (hK.sub (tys' := []) [] rfl) hP hD rfl dX12_isFlagBarred_119 ⟨(show 0 ≤ (1 : Int32).toInt ∧ (1 : Int32).toInt ≤ 1 from by decide), hI, hfi, hfc⟩
            · have f144 := mt (ti_eq (a := r142.toInt) (b := (-9)) rfl (by decide)).mpr c144
              refine lv_aload_n hx hb dX12_isFlagBarred_101 rfl (lv_at hl 1 rfl) ?_
              refine lv_iload hx hb dX12_isFlagBarred_102 (lv_at hl 0 rfl) ?_
              refine al_callv (va_runV (As := [.int r142]) (rest := []) ⟨hx, hb, hml, hown, hts⟩ (s_X12_clashes l D H.size o a t i q c d r142 hI (by omega) (by omega)) (cwV 1 hts gm_X12_isFlagBarred_X12_clashes rfl rfl rfl (by decide +kernel) ⟨Nat.le_of_ble_eq_true rfl, Nat.le_of_ble_eq_true rfl⟩) (pB_V hK hP hD (ci := 12) (q0 := 0) rfl rfl) rfl rfl hl.1 rfl (lv_room (Nat.le_of_ble_eq_true rfl)) dX12_isFlagBarred_104 ⟨Nat.le_of_ble_eq_true rfl, Nat.le_of_ble_eq_true rfl⟩) hS hA hP hD (fun u146 H locs hw146 hP hD hS => ?_)
              obtain ⟨i146, q146, c146, d146⟩ := u146
              have hw146 : True ∧ mInv i146 c146 ∧ (∀ k, k ∉ ([15] : List Nat) → i146 k = i k) ∧ (∀ k, k ∉ ([14] : List Nat) → c146 k = c k) ∧ ((i146 15).toInt = (i 15).toInt + 1) := hw146
              obtain ⟨hw146, hI, hei146, hec146, hxp146_0⟩ := hw146
              have hfi := fr_t hfi hei146 (by decide)
              have hfc := fr_t hfc hec146 (by decide)
              have hP : va_P D vwCl (mW o a t i146 q146 c146 d146) H := hP
              have hD : va_D A (mW o a t i146 q146 c146 d146) := hD
              refine lv_iload hx hb dX12_isFlagBarred_107 (lv_at hl 0 rfl) ?_
              refine lv_bipush (v := (-9)) hx hb dX12_isFlagBarred_109 (by decide) ?_
              refine lv_icmp_eq (tgt := 118) hx hb dX12_isFlagBarred_111 (by decide) (fun c147 => ?_) (fun c147 => ?_)
              · have f147 := (ti_eq (a := r142.toInt) (b := (-9)) rfl (by decide)).mp c147
                refine lv_iconst (v := 0) hx hb dX12_isFlagBarred_118 (by decide) ?_
                exact rw_zret (i146, q146, c146, d146) hx hb hr hlocks hS (hK.sub (tys' := []) [] rfl) hP hD rfl dX12_isFlagBarred_119 ⟨(show 0 ≤ (0 : Int32).toInt ∧ (0 : Int32).toInt ≤ 1 from by decide), hI, hfi, hfc⟩
              · have f147 := mt (ti_eq (a := r142.toInt) (b := (-9)) rfl (by decide)).mpr c147
                refine lv_iconst (v := 1) hx hb dX12_isFlagBarred_114 (by decide) ?_
                refine lv_goto (tgt := 119) hx hb dX12_isFlagBarred_115 (by decide) ?_
                exact rw_zret (i146, q146, c146, d146) hx hb hr hlocks hS (hK.sub (tys' := []) [] rfl) hP hD rfl dX12_isFlagBarred_119 ⟨(show 0 ≤ (1 : Int32).toInt ∧ (1 : Int32).toInt ≤ 1 from by decide), hI, hfi, hfc⟩
          · have f143 := (ti_eq (a := r142.toInt) (b := (-9)) rfl (by decide)).mp c143
            refine lv_iload_n hx hb dX12_isFlagBarred_54 rfl (lv_at hl 3 rfl) ?_
            refine lv_iconst (v := 4) hx hb dX12_isFlagBarred_55 (by decide) ?_
            refine lv_icmp_ne (tgt := 94) hx hb dX12_isFlagBarred_56 (by decide) (fun c148 => ?_) (fun c148 => ?_)
            · have f148 := mt (ti_eq (a := f.toInt) (b := 4) rfl (by decide)).mpr c148
              refine lv_iload hx hb dX12_isFlagBarred_94 (lv_at hl 0 rfl) ?_
              refine lv_bipush (v := (-9)) hx hb dX12_isFlagBarred_96 (by decide) ?_
              refine lv_icmp_eq (tgt := 107) hx hb dX12_isFlagBarred_98 (by decide) (fun c149 => ?_) (fun c149 => ?_)
              · have f149 := (ti_eq (a := r142.toInt) (b := (-9)) rfl (by decide)).mp c149
                refine lv_iload hx hb dX12_isFlagBarred_107 (lv_at hl 0 rfl) ?_
                refine lv_bipush (v := (-9)) hx hb dX12_isFlagBarred_109 (by decide) ?_
                refine lv_icmp_eq (tgt := 118) hx hb dX12_isFlagBarred_111 (by decide) (fun c150 => ?_) (fun c150 => ?_)
                · have f150 := (ti_eq (a := r142.toInt) (b := (-9)) rfl (by decide)).mp c150
                  refine lv_iconst (v := 0) hx hb dX12_isFlagBarred_118 (by decide) ?_
                  exact rw_zret (i, q, c, d) hx hb hr hlocks hS (hK.sub (tys' := []) [] rfl) hP hD rfl dX12_isFlagBarred_119 ⟨(show 0 ≤ (0 : Int32).toInt ∧ (0 : Int32).toInt ≤ 1 from by decide), hI, hfi, hfc⟩
                · have f150 := mt (ti_eq (a := r142.toInt) (b := (-9)) rfl (by decide)).mpr c150
                  refine lv_iconst (v := 1) hx hb dX12_isFlagBarred_114 (by decide) ?_
                  refine lv_goto (tgt := 119) hx hb dX12_isFlagBarred_115 (by decide) ?_
                  exact rw_zret (i, q, c, d) hx hb hr hlocks hS (hK.sub (tys' := []) [] rfl) hP hD rfl dX12_isFlagBarred_119 ⟨(show 0 ≤ (1 : Int32).toInt ∧ (1 : Int32).toInt ≤ 1 from by decide), hI, hfi, hfc⟩
              · have f149 := mt (ti_eq (a := r142.toInt) (b := (-9)) rfl (by decide)).mpr c149
                refine lv_aload_n hx hb dX12_isFlagBarred_101 rfl (lv_at hl 1 rfl) ?_
                refine lv_iload hx hb dX12_isFlagBarred_102 (lv_at hl 0 rfl) ?_
                refine al_callv (va_runV (As := [.int r142]) (rest := []) ⟨hx, hb, hml, hown, hts⟩ (s_X12_clashes l D H.size o a t i q c d r142 hI (by omega) (by omega)) (cwV 1 hts gm_X12_isFlagBarred_X12_clashes rfl rfl rfl (by decide +kernel) ⟨Nat.le_of_ble_eq_true rfl, Nat.le_of_ble_eq_true rfl⟩) (pB_V hK hP hD (ci := 12) (q0 := 0) rfl rfl) rfl rfl hl.1 rfl (lv_room (Nat.le_of_ble_eq_true rfl)) dX12_isFlagBarred_104 ⟨Nat.le_of_ble_eq_true rfl, Nat.le_of_ble_eq_true rfl⟩) hS hA hP hD (fun u151 H locs hw151 hP hD hS => ?_)
                obtain ⟨i151, q151, c151, d151⟩ := u151
                have hw151 : True ∧ mInv i151 c151 ∧ (∀ k, k ∉ ([15] : List Nat) → i151 k = i k) ∧ (∀ k, k ∉ ([14] : List Nat) → c151 k = c k) ∧ ((i151 15).toInt = (i 15).toInt + 1) := hw151
                obtain ⟨hw151, hI, hei151, hec151, hxp151_0⟩ := hw151
                have hfi := fr_t hfi hei151 (by decide)
                have hfc := fr_t hfc hec151 (by decide)
                have hP : va_P D vwCl (mW o a t i151 q151 c151 d151) H := hP
                have hD : va_D A (mW o a t i151 q151 c151 d151) := hD
                refine lv_iload hx hb dX12_isFlagBarred_107 (lv_at hl 0 rfl) ?_
                refine lv_bipush (v := (-9)) hx hb dX12_isFlagBarred_109 (by decide) ?_
                refine lv_icmp_eq (tgt := 118) hx hb dX12_isFlagBarred_111 (by decide) (fun c152 => ?_) (fun c152 => ?_)
                · have f152 := (ti_eq (a := r142.toInt) (b := (-9)) rfl (by decide)).mp c152
                  refine lv_iconst (v := 0) hx hb dX12_isFlagBarred_118 (by decide) ?_
                  exact rw_zret (i151, q151, c151, d151) hx hb hr hlocks hS (hK.sub (tys' := []) [] rfl) hP hD rfl dX12_isFlagBarred_119 ⟨(show 0 ≤ (0 : Int32).toInt ∧ (0 : Int32).toInt ≤ 1 from by decide), hI, hfi, hfc⟩
                · have f152 := mt (ti_eq (a := r142.toInt) (b := (-9)) rfl (by decide)).mpr c152
                  refine lv_iconst (v := 1) hx hb dX12_isFlagBarred_114 (by decide) ?_
                  refine lv_goto (tgt := 119) hx hb dX12_isFlagBarred_115 (by decide) ?_
                  exact rw_zret (i151, q151, c151, d151) hx hb hr hlocks hS (hK.sub (tys' := []) [] rfl) hP hD rfl dX12_isFlagBarred_119 ⟨(show 0 ≤ (1 : Int32).toInt ∧ (1 : Int32).toInt ≤ 1 from by decide), hI, hfi, hfc⟩
            · have f148 := (ti_eq (a := f.toInt) (b := 4) rfl (by decide)).mp c148
              refine lv_iload_n hx hb dX12_isFlagBarred_59 rfl (lv_at hl 4 rfl) ?_
              refine lv_if_ne (tgt := 94) hx hb dX12_isFlagBarred_60 (by decide) (fun c153 => ?_) (fun c153 => ?_)
              · have f153 := mt (ti_eq (a := v1.toInt) (b := 0) rfl (by decide)).mpr c153
                refine lv_iload hx hb dX12_isFlagBarred_94 (lv_at hl 0 rfl) ?_
                refine lv_bipush (v := (-9)) hx hb dX12_isFlagBarred_96 (by decide) ?_
                refine lv_icmp_eq (tgt := 107) hx hb dX12_isFlagBarred_98 (by decide) (fun c154 => ?_) (fun c154 => ?_)
                · have f154 := (ti_eq (a := r142.toInt) (b := (-9)) rfl (by decide)).mp c154
                  refine lv_iload hx hb dX12_isFlagBarred_107 (lv_at hl 0 rfl) ?_
                  refine lv_bipush (v := (-9)) hx hb dX12_isFlagBarred_109 (by decide) ?_
                  refine lv_icmp_eq (tgt := 118) hx hb dX12_isFlagBarred_111 (by decide) (fun c155 => ?_) (fun c155 => ?_)
                  · have f155 := (ti_eq (a := r142.toInt) (b := (-9)) rfl (by decide)).mp c155
                    refine lv_iconst (v := 0) hx hb dX12_isFlagBarred_118 (by decide) ?_
                    exact rw_zret (i, q, c, d) hx hb hr hlocks hS (hK.sub (tys' := []) [] rfl) hP hD rfl dX12_isFlagBarred_119 ⟨(show 0 ≤ (0 : Int32).toInt ∧ (0 : Int32).toInt ≤ 1 from by decide), hI, hfi, hfc⟩
                  · have f155 := mt (ti_eq (a := r142.toInt) (b := (-9)) rfl (by decide)).mpr c155
                    refine lv_iconst (v := 1) hx hb dX12_isFlagBarred_114 (by decide) ?_
                    refine lv_goto (tgt := 119) hx hb dX12_isFlagBarred_115 (by decide) ?_
                    exact rw_zret (i, q, c, d) hx hb hr hlocks hS (hK.sub (tys' := []) [] rfl) hP hD rfl dX12_isFlagBarred_119 ⟨(show 0 ≤ (1 : Int32).toInt ∧ (1 : Int32).toInt ≤ 1 from by decide), hI, hfi, hfc⟩
                · have f154 := mt (ti_eq (a := r142.toInt) (b := (-9)) rfl (by decide)).mpr c154
                  refine lv_aload_n hx hb dX12_isFlagBarred_101 rfl (lv_at hl 1 rfl) ?_
                  refine lv_iload hx hb dX12_isFlagBarred_102 (lv_at hl 0 rfl) ?_
                  refine al_callv (va_runV (As := [.int r142]) (rest := []) ⟨hx, hb, hml, hown, hts⟩ (s_X12_clashes l D H.size o a t i q c d r142 hI (by omega) (by omega)) (cwV 1 hts gm_X12_isFlagBarred_X12_clashes rfl rfl rfl (by decide +kernel) ⟨Nat.le_of_ble_eq_true rfl, Nat.le_of_ble_eq_true rfl⟩) (pB_V hK hP hD (ci := 12) (q0 := 0) rfl rfl) rfl rfl hl.1 rfl (lv_room (Nat.le_of_ble_eq_true rfl)) dX12_isFlagBarred_104 ⟨Nat.le_of_ble_eq_true rfl, Nat.le_of_ble_eq_true rfl⟩) hS hA hP hD (fun u156 H locs hw156 hP hD hS => ?_)
                  obtain ⟨i156, q156, c156, d156⟩ := u156
                  have hw156 : True ∧ mInv i156 c156 ∧ (∀ k, k ∉ ([15] : List Nat) → i156 k = i k) ∧ (∀ k, k ∉ ([14] : List Nat) → c156 k = c k) ∧ ((i156 15).toInt = (i 15).toInt + 1) := hw156
                  obtain ⟨hw156, hI, hei156, hec156, hxp156_0⟩ := hw156
                  have hfi := fr_t hfi hei156 (by decide)
                  have hfc := fr_t hfc hec156 (by decide)
                  have hP : va_P D vwCl (mW o a t i156 q156 c156 d156) H := hP
                  have hD : va_D A (mW o a t i156 q156 c156 d156) := hD
                  refine lv_iload hx hb dX12_isFlagBarred_107 (lv_at hl 0 rfl) ?_
                  refine lv_bipush (v := (-9)) hx hb dX12_isFlagBarred_109 (by decide) ?_
                  refine lv_icmp_eq (tgt := 118) hx hb dX12_isFlagBarred_111 (by decide) (fun c157 => ?_) (fun c157 => ?_)
                  · have f157 := (ti_eq (a := r142.toInt) (b := (-9)) rfl (by decide)).mp c157
                    refine lv_iconst (v := 0) hx hb dX12_isFlagBarred_118 (by decide) ?_
                    exact rw_zret (i156, q156, c156, d156) hx hb hr hlocks hS (hK.sub (tys' := []) [] rfl) hP hD rfl dX12_isFlagBarred_119 ⟨(show 0 ≤ (0 : Int32).toInt ∧ (0 : Int32).toInt ≤ 1 from by decide), hI, hfi, hfc⟩
                  · have f157 := mt (ti_eq (a := r142.toInt) (b := (-9)) rfl (by decide)).mpr c157
                    refine lv_iconst (v := 1) hx hb dX12_isFlagBarred_114 (by decide) ?_
                    refine lv_goto (tgt := 119) hx hb dX12_isFlagBarred_115 (by decide) ?_
                    exact rw_zret (i156, q156, c156, d156) hx hb hr hlocks hS (hK.sub (tys' := []) [] rfl) hP hD rfl dX12_isFlagBarred_119 ⟨(show 0 ≤ (1 : Int32).toInt ∧ (1 : Int32).toInt ≤ 1 from by decide), hI, hfi, hfc⟩
              · have f153 := (ti_eq (a := v1.toInt) (b := 0) rfl (by decide)).mp c153
                refine lv_aload_n hx hb dX12_isFlagBarred_63 rfl (lv_at hl 1 rfl) ?_
                refine lv_iload_n hx hb dX12_isFlagBarred_64 rfl (lv_at hl 2 rfl) ?_
                refine ro_calli (va_runV (As := [.int w1]) (rest := []) ⟨hx, hb, hml, hown, hts⟩ (s_X12_placing l D H.size o a t i q c d w1 hI ) (cwV 1 hts gm_X12_isFlagBarred_X12_placing rfl rfl rfl (by decide +kernel) ⟨Nat.le_of_ble_eq_true rfl, Nat.le_of_ble_eq_true rfl⟩) (pA_V hK hP (ci := 12) (q0 := 0) rfl rfl) rfl rfl hl.1 rfl (lv_room (Nat.le_of_ble_eq_true rfl)) dX12_isFlagBarred_65 ⟨Nat.le_of_ble_eq_true rfl, Nat.le_of_ble_eq_true rfl⟩) hS hA hP (fun r158 u158 H locs hw158 hP hS => ?_)
                have hw158 : r158.toInt = -9 ∨ (0 ≤ r158.toInt ∧ r158.toInt ≤ 199) := hw158
                refine lv_bipush (v := (-9)) hx hb dX12_isFlagBarred_68 (by decide) ?_
                refine lv_icmp_eq (tgt := 94) hx hb dX12_isFlagBarred_70 (by decide) (fun c159 => ?_) (fun c159 => ?_)
                · have f159 := (ti_eq (a := r158.toInt) (b := (-9)) rfl (by decide)).mp c159
                  refine lv_iload hx hb dX12_isFlagBarred_94 (lv_at hl 0 rfl) ?_
                  refine lv_bipush (v := (-9)) hx hb dX12_isFlagBarred_96 (by decide) ?_
                  refine lv_icmp_eq (tgt := 107) hx hb dX12_isFlagBarred_98 (by decide) (fun c160 => ?_) (fun c160 => ?_)
                  · have f160 := (ti_eq (a := r142.toInt) (b := (-9)) rfl (by decide)).mp c160
                    refine lv_iload hx hb dX12_isFlagBarred_107 (lv_at hl 0 rfl) ?_
                    refine lv_bipush (v := (-9)) hx hb dX12_isFlagBarred_109 (by decide) ?_
                    refine lv_icmp_eq (tgt := 118) hx hb dX12_isFlagBarred_111 (by decide) (fun c161 => ?_) (fun c161 => ?_)
                    · have f161 := (ti_eq (a := r142.toInt) (b := (-9)) rfl (by decide)).mp c161
                      refine lv_iconst (v := 0) hx hb dX12_isFlagBarred_118 (by decide) ?_
                      exact rw_zret (i, q, c, d) hx hb hr hlocks hS (hK.sub (tys' := []) [] rfl) hP hD rfl dX12_isFlagBarred_119 ⟨(show 0 ≤ (0 : Int32).toInt ∧ (0 : Int32).toInt ≤ 1 from by decide), hI, hfi, hfc⟩
                    · have f161 := mt (ti_eq (a := r142.toInt) (b := (-9)) rfl (by decide)).mpr c161
                      refine lv_iconst (v := 1) hx hb dX12_isFlagBarred_114 (by decide) ?_
                      refine lv_goto (tgt := 119) hx hb dX12_isFlagBarred_115 (by decide) ?_
                      exact rw_zret (i, q, c, d) hx hb hr hlocks hS (hK.sub (tys' := []) [] rfl) hP hD rfl dX12_isFlagBarred_119 ⟨(show 0 ≤ (1 : Int32).toInt ∧ (1 : Int32).toInt ≤ 1 from by decide), hI, hfi, hfc⟩
                  · have f160 := mt (ti_eq (a := r142.toInt) (b := (-9)) rfl (by decide)).mpr c160
                    refine lv_aload_n hx hb dX12_isFlagBarred_101 rfl (lv_at hl 1 rfl) ?_
                    refine lv_iload hx hb dX12_isFlagBarred_102 (lv_at hl 0 rfl) ?_
                    refine al_callv (va_runV (As := [.int r142]) (rest := []) ⟨hx, hb, hml, hown, hts⟩ (s_X12_clashes l D H.size o a t i q c d r142 hI (by omega) (by omega)) (cwV 1 hts gm_X12_isFlagBarred_X12_clashes rfl rfl rfl (by decide +kernel) ⟨Nat.le_of_ble_eq_true rfl, Nat.le_of_ble_eq_true rfl⟩) (pB_V hK hP hD (ci := 12) (q0 := 0) rfl rfl) rfl rfl hl.1 rfl (lv_room (Nat.le_of_ble_eq_true rfl)) dX12_isFlagBarred_104 ⟨Nat.le_of_ble_eq_true rfl, Nat.le_of_ble_eq_true rfl⟩) hS hA hP hD (fun u162 H locs hw162 hP hD hS => ?_)
                    obtain ⟨i162, q162, c162, d162⟩ := u162
                    have hw162 : True ∧ mInv i162 c162 ∧ (∀ k, k ∉ ([15] : List Nat) → i162 k = i k) ∧ (∀ k, k ∉ ([14] : List Nat) → c162 k = c k) ∧ ((i162 15).toInt = (i 15).toInt + 1) := hw162
                    obtain ⟨hw162, hI, hei162, hec162, hxp162_0⟩ := hw162
                    have hfi := fr_t hfi hei162 (by decide)
                    have hfc := fr_t hfc hec162 (by decide)
                    have hP : va_P D vwCl (mW o a t i162 q162 c162 d162) H := hP
                    have hD : va_D A (mW o a t i162 q162 c162 d162) := hD
                    refine lv_iload hx hb dX12_isFlagBarred_107 (lv_at hl 0 rfl) ?_
                    refine lv_bipush (v := (-9)) hx hb dX12_isFlagBarred_109 (by decide) ?_
                    refine lv_icmp_eq (tgt := 118) hx hb dX12_isFlagBarred_111 (by decide) (fun c163 => ?_) (fun c163 => ?_)
                    · have f163 := (ti_eq (a := r142.toInt) (b := (-9)) rfl (by decide)).mp c163
                      refine lv_iconst (v := 0) hx hb dX12_isFlagBarred_118 (by decide) ?_
                      exact rw_zret (i162, q162, c162, d162) hx hb hr hlocks hS (hK.sub (tys' := []) [] rfl) hP hD rfl dX12_isFlagBarred_119 ⟨(show 0 ≤ (0 : Int32).toInt ∧ (0 : Int32).toInt ≤ 1 from by decide), hI, hfi, hfc⟩
                    · have f163 := mt (ti_eq (a := r142.toInt) (b := (-9)) rfl (by decide)).mpr c163
                      refine lv_iconst (v := 1) hx hb dX12_isFlagBarred_114 (by decide) ?_
                      refine lv_goto (tgt := 119) hx hb dX12_isFlagBarred_115 (by decide) ?_
                      exact rw_zret (i162, q162, c162, d162) hx hb hr hlocks hS (hK.sub (tys' := []) [] rfl) hP hD rfl dX12_isFlagBarred_119 ⟨(show 0 ≤ (1 : Int32).toInt ∧ (1 : Int32).toInt ≤ 1 from by decide), hI, hfi, hfc⟩
                · have f159 := mt (ti_eq (a := r158.toInt) (b := (-9)) rfl (by decide)).mpr c159
                  refine lv_aload_n hx hb dX12_isFlagBarred_73 rfl (lv_at hl 1 rfl) ?_
                  refine va_get (D := D) (ci := 12) (v := .ref (a 9)) (C := RX12) (T := TX12) (N := 69) hx hb hts (fun _ h => List.mem_cons_of_mem _ (List.mem_append_right _ h)) hown hK hP 0 rfl rfl 9 (by decide) (hts (.fieldLink RX12 25 "TalePlayModel" "form" "[I") (by decide +kernel)) (fun _ h9 => h9) rfl dX12_isFlagBarred_74 ?_
                  refine lv_aload_n hx hb dX12_isFlagBarred_77 rfl (lv_at hl 1 rfl) ?_
                  refine lv_iload_n hx hb dX12_isFlagBarred_78 rfl (lv_at hl 2 rfl) ?_
                  refine ro_calli (va_runV (As := [.int w1]) (rest := [.ref (a 9)]) ⟨hx, hb, hml, hown, hts⟩ (s_X12_placing l D H.size o a t i q c d w1 hI ) (cwV 1 hts gm_X12_isFlagBarred_X12_placing rfl rfl rfl (by decide +kernel) ⟨Nat.le_of_ble_eq_true rfl, Nat.le_of_ble_eq_true rfl⟩) (pA_V hK hP (ci := 12) (q0 := 0) rfl rfl) rfl rfl hl.1 rfl (lv_room (Nat.le_of_ble_eq_true rfl)) dX12_isFlagBarred_79 ⟨Nat.le_of_ble_eq_true rfl, Nat.le_of_ble_eq_true rfl⟩) hS hA hP (fun r164 u164 H locs hw164 hP hS => ?_)
                  have hw164 : r164.toInt = -9 ∨ (0 ≤ r164.toInt ∧ r164.toInt ≤ 199) := hw164
                  refine va_iald hx hb hK hP 6 5 rfl rfl (vp_in_iff.mpr (by have h9 : r164.toInt = r164.toInt := rfl; omega)) dX12_isFlagBarred_82 ?_
                  refine lv_topi (fun x165 ex165 => ?_)
                  have rx165 : 0 ≤ x165.toInt ∧ x165.toInt ≤ 7 := by rw [ex165]; exact hI.2 9 _
                  refine lv_iconst (v := 3) hx hb dX12_isFlagBarred_83 (by decide) ?_
                  refine lv_icmp_ne (tgt := 94) hx hb dX12_isFlagBarred_84 (by decide) (fun c166 => ?_) (fun c166 => ?_)
                  · have f166 := mt (ti_eq (a := x165.toInt) (b := 3) rfl (by decide)).mpr c166
                    refine lv_iload hx hb dX12_isFlagBarred_94 (lv_at hl 0 rfl) ?_
                    refine lv_bipush (v := (-9)) hx hb dX12_isFlagBarred_96 (by decide) ?_
                    refine lv_icmp_eq (tgt := 107) hx hb dX12_isFlagBarred_98 (by decide) (fun c167 => ?_) (fun c167 => ?_)
                    · have f167 := (ti_eq (a := r142.toInt) (b := (-9)) rfl (by decide)).mp c167
                      refine lv_iload hx hb dX12_isFlagBarred_107 (lv_at hl 0 rfl) ?_
                      refine lv_bipush (v := (-9)) hx hb dX12_isFlagBarred_109 (by decide) ?_
                      refine lv_icmp_eq (tgt := 118) hx hb dX12_isFlagBarred_111 (by decide) (fun c168 => ?_) (fun c168 => ?_)
                      · have f168 := (ti_eq (a := r142.toInt) (b := (-9)) rfl (by decide)).mp c168
                        refine lv_iconst (v := 0) hx hb dX12_isFlagBarred_118 (by decide) ?_
                        exact rw_zret (i, q, c, d) hx hb hr hlocks hS (hK.sub (tys' := []) [] rfl) hP hD rfl dX12_isFlagBarred_119 ⟨(show 0 ≤ (0 : Int32).toInt ∧ (0 : Int32).toInt ≤ 1 from by decide), hI, hfi, hfc⟩
                      · have f168 := mt (ti_eq (a := r142.toInt) (b := (-9)) rfl (by decide)).mpr c168
                        refine lv_iconst (v := 1) hx hb dX12_isFlagBarred_114 (by decide) ?_
                        refine lv_goto (tgt := 119) hx hb dX12_isFlagBarred_115 (by decide) ?_
                        exact rw_zret (i, q, c, d) hx hb hr hlocks hS (hK.sub (tys' := []) [] rfl) hP hD rfl dX12_isFlagBarred_119 ⟨(show 0 ≤ (1 : Int32).toInt ∧ (1 : Int32).toInt ≤ 1 from by decide), hI, hfi, hfc⟩
                    · have f167 := mt (ti_eq (a := r142.toInt) (b := (-9)) rfl (by decide)).mpr c167
                      refine lv_aload_n hx hb dX12_isFlagBarred_101 rfl (lv_at hl 1 rfl) ?_
                      refine lv_iload hx hb dX12_isFlagBarred_102 (lv_at hl 0 rfl) ?_
                      refine al_callv (va_runV (As := [.int r142]) (rest := []) ⟨hx, hb, hml, hown, hts⟩ (s_X12_clashes l D H.size o a t i q c d r142 hI (by omega) (by omega)) (cwV 1 hts gm_X12_isFlagBarred_X12_clashes rfl rfl rfl (by decide +kernel) ⟨Nat.le_of_ble_eq_true rfl, Nat.le_of_ble_eq_true rfl⟩) (pB_V hK hP hD (ci := 12) (q0 := 0) rfl rfl) rfl rfl hl.1 rfl (lv_room (Nat.le_of_ble_eq_true rfl)) dX12_isFlagBarred_104 ⟨Nat.le_of_ble_eq_true rfl, Nat.le_of_ble_eq_true rfl⟩) hS hA hP hD (fun u169 H locs hw169 hP hD hS => ?_)
                      obtain ⟨i169, q169, c169, d169⟩ := u169
                      have hw169 : True ∧ mInv i169 c169 ∧ (∀ k, k ∉ ([15] : List Nat) → i169 k = i k) ∧ (∀ k, k ∉ ([14] : List Nat) → c169 k = c k) ∧ ((i169 15).toInt = (i 15).toInt + 1) := hw169
                      obtain ⟨hw169, hI, hei169, hec169, hxp169_0⟩ := hw169
                      have hfi := fr_t hfi hei169 (by decide)
                      have hfc := fr_t hfc hec169 (by decide)
                      have hP : va_P D vwCl (mW o a t i169 q169 c169 d169) H := hP
                      have hD : va_D A (mW o a t i169 q169 c169 d169) := hD
                      refine lv_iload hx hb dX12_isFlagBarred_107 (lv_at hl 0 rfl) ?_
                      refine lv_bipush (v := (-9)) hx hb dX12_isFlagBarred_109 (by decide) ?_
                      refine lv_icmp_eq (tgt := 118) hx hb dX12_isFlagBarred_111 (by decide) (fun c170 => ?_) (fun c170 => ?_)
                      · have f170 := (ti_eq (a := r142.toInt) (b := (-9)) rfl (by decide)).mp c170
                        refine lv_iconst (v := 0) hx hb dX12_isFlagBarred_118 (by decide) ?_
                        exact rw_zret (i169, q169, c169, d169) hx hb hr hlocks hS (hK.sub (tys' := []) [] rfl) hP hD rfl dX12_isFlagBarred_119 ⟨(show 0 ≤ (0 : Int32).toInt ∧ (0 : Int32).toInt ≤ 1 from by decide), hI, hfi, hfc⟩
                      · have f170 := mt (ti_eq (a := r142.toInt) (b := (-9)) rfl (by decide)).mpr c170
                        refine lv_iconst (v := 1) hx hb dX12_isFlagBarred_114 (by decide) ?_
                        refine lv_goto (tgt := 119) hx hb dX12_isFlagBarred_115 (by decide) ?_
                        exact rw_zret (i169, q169, c169, d169) hx hb hr hlocks hS (hK.sub (tys' := []) [] rfl) hP hD rfl dX12_isFlagBarred_119 ⟨(show 0 ≤ (1 : Int32).toInt ∧ (1 : Int32).toInt ≤ 1 from by decide), hI, hfi, hfc⟩
                  · have f166 := (ti_eq (a := x165.toInt) (b := 3) rfl (by decide)).mp c166
                    refine lv_aload_n hx hb dX12_isFlagBarred_87 rfl (lv_at hl 1 rfl) ?_
                    refine lv_iload_n hx hb dX12_isFlagBarred_88 rfl (lv_at hl 2 rfl) ?_
                    refine ro_calli (va_runV (As := [.int w1]) (rest := []) ⟨hx, hb, hml, hown, hts⟩ (s_X12_placing l D H.size o a t i q c d w1 hI ) (cwV 1 hts gm_X12_isFlagBarred_X12_placing rfl rfl rfl (by decide +kernel) ⟨Nat.le_of_ble_eq_true rfl, Nat.le_of_ble_eq_true rfl⟩) (pA_V hK hP (ci := 12) (q0 := 0) rfl rfl) rfl rfl hl.1 rfl (lv_room (Nat.le_of_ble_eq_true rfl)) dX12_isFlagBarred_89 ⟨Nat.le_of_ble_eq_true rfl, Nat.le_of_ble_eq_true rfl⟩) hS hA hP (fun r171 u171 H locs hw171 hP hS => ?_)
                    have hw171 : r171.toInt = -9 ∨ (0 ≤ r171.toInt ∧ r171.toInt ≤ 199) := hw171
                    refine lv_istore (lv' := [(4, .int r171), (0, .ref o), (1, .int w1), (2, .int f), (3, .int v1)]) hx hb dX12_isFlagBarred_92 hl (by decide) rfl (fun ls hl => ?_)
                    refine lv_iload hx hb dX12_isFlagBarred_94 (lv_at hl 0 rfl) ?_
                    refine lv_bipush (v := (-9)) hx hb dX12_isFlagBarred_96 (by decide) ?_
                    refine lv_icmp_eq (tgt := 107) hx hb dX12_isFlagBarred_98 (by decide) (fun c172 => ?_) (fun c172 => ?_)
                    · have f172 := (ti_eq (a := r171.toInt) (b := (-9)) rfl (by decide)).mp c172
                      refine lv_iload hx hb dX12_isFlagBarred_107 (lv_at hl 0 rfl) ?_
                      refine lv_bipush (v := (-9)) hx hb dX12_isFlagBarred_109 (by decide) ?_
                      refine lv_icmp_eq (tgt := 118) hx hb dX12_isFlagBarred_111 (by decide) (fun c173 => ?_) (fun c173 => ?_)
                      · have f173 := (ti_eq (a := r171.toInt) (b := (-9)) rfl (by decide)).mp c173
                        refine lv_iconst (v := 0) hx hb dX12_isFlagBarred_118 (by decide) ?_
                        exact rw_zret (i, q, c, d) hx hb hr hlocks hS (hK.sub (tys' := []) [] rfl) hP hD rfl dX12_isFlagBarred_119 ⟨(show 0 ≤ (0 : Int32).toInt ∧ (0 : Int32).toInt ≤ 1 from by decide), hI, hfi, hfc⟩
                      · have f173 := mt (ti_eq (a := r171.toInt) (b := (-9)) rfl (by decide)).mpr c173
                        refine lv_iconst (v := 1) hx hb dX12_isFlagBarred_114 (by decide) ?_
                        refine lv_goto (tgt := 119) hx hb dX12_isFlagBarred_115 (by decide) ?_
                        exact rw_zret (i, q, c, d) hx hb hr hlocks hS (hK.sub (tys' := []) [] rfl) hP hD rfl dX12_isFlagBarred_119 ⟨(show 0 ≤ (1 : Int32).toInt ∧ (1 : Int32).toInt ≤ 1 from by decide), hI, hfi, hfc⟩
                    · have f172 := mt (ti_eq (a := r171.toInt) (b := (-9)) rfl (by decide)).mpr c172
                      refine lv_aload_n hx hb dX12_isFlagBarred_101 rfl (lv_at hl 1 rfl) ?_
                      refine lv_iload hx hb dX12_isFlagBarred_102 (lv_at hl 0 rfl) ?_
                      refine al_callv (va_runV (As := [.int r171]) (rest := []) ⟨hx, hb, hml, hown, hts⟩ (s_X12_clashes l D H.size o a t i q c d r171 hI (by omega) (by omega)) (cwV 1 hts gm_X12_isFlagBarred_X12_clashes rfl rfl rfl (by decide +kernel) ⟨Nat.le_of_ble_eq_true rfl, Nat.le_of_ble_eq_true rfl⟩) (pB_V hK hP hD (ci := 12) (q0 := 0) rfl rfl) rfl rfl hl.1 rfl (lv_room (Nat.le_of_ble_eq_true rfl)) dX12_isFlagBarred_104 ⟨Nat.le_of_ble_eq_true rfl, Nat.le_of_ble_eq_true rfl⟩) hS hA hP hD (fun u174 H locs hw174 hP hD hS => ?_)
                      obtain ⟨i174, q174, c174, d174⟩ := u174
                      have hw174 : True ∧ mInv i174 c174 ∧ (∀ k, k ∉ ([15] : List Nat) → i174 k = i k) ∧ (∀ k, k ∉ ([14] : List Nat) → c174 k = c k) ∧ ((i174 15).toInt = (i 15).toInt + 1) := hw174
                      obtain ⟨hw174, hI, hei174, hec174, hxp174_0⟩ := hw174
                      have hfi := fr_t hfi hei174 (by decide)
                      have hfc := fr_t hfc hec174 (by decide)
                      have hP : va_P D vwCl (mW o a t i174 q174 c174 d174) H := hP
                      have hD : va_D A (mW o a t i174 q174 c174 d174) := hD
                      refine lv_iload hx hb dX12_isFlagBarred_107 (lv_at hl 0 rfl) ?_
                      refine lv_bipush (v := (-9)) hx hb dX12_isFlagBarred_109 (by decide) ?_
                      refine lv_icmp_eq (tgt := 118) hx hb dX12_isFlagBarred_111 (by decide) (fun c175 => ?_) (fun c175 => ?_)
                      · have f175 := (ti_eq (a := r171.toInt) (b := (-9)) rfl (by decide)).mp c175
                        refine lv_iconst (v := 0) hx hb dX12_isFlagBarred_118 (by decide) ?_
                        exact rw_zret (i174, q174, c174, d174) hx hb hr hlocks hS (hK.sub (tys' := []) [] rfl) hP hD rfl dX12_isFlagBarred_119 ⟨(show 0 ≤ (0 : Int32).toInt ∧ (0 : Int32).toInt ≤ 1 from by decide), hI, hfi, hfc⟩
                      · have f175 := mt (ti_eq (a := r171.toInt) (b := (-9)) rfl (by decide)).mpr c175
                        refine lv_iconst (v := 1) hx hb dX12_isFlagBarred_114 (by decide) ?_
                        refine lv_goto (tgt := 119) hx hb dX12_isFlagBarred_115 (by decide) ?_
                        exact rw_zret (i174, q174, c174, d174) hx hb hr hlocks hS (hK.sub (tys' := []) [] rfl) hP hD rfl dX12_isFlagBarred_119 ⟨(show 0 ≤ (1 : Int32).toInt ∧ (1 : Int32).toInt ≤ 1 from by decide), hI, hfi, hfc⟩

def wm_X12_findExit : List Cond := .code yX12_findExit cX12_findExit 6 (some .boolean) :: (([.fieldLink RX12 263 "TalePlayModel" "leads" "I", .fieldLink RX12 266 "TalePlayModel" "byDoor" "I", .fieldLink RX12 269 "TalePlayModel" "bySentence" "I", .fieldLink RX12 272 "TalePlayModel" "isImplied" "Z", .fieldLink RX12 202 "TalePlayModel" "sentences" "I", .fieldLink RX12 28 "TalePlayModel" "left" "[I", .fieldLink RX12 31 "TalePlayModel" "middle" "[I", .methodLink RX12 184 yX12_isOf, .instanceMethod yX12_isOf, .selects RX12 yX12_isOf yX12_isOf, .initialized RX12, .code yX12_isOf cX12_isOf 4 (some .boolean), .fieldLink RX12 19 "TalePlayModel" "kindOf" "[I", .fieldLink RX12 13 "TalePlayModel" "parentOf" "[I", .methodLink RX12 276 yX12_otherSide, .instanceMethod yX12_otherSide, .selects RX12 yX12_otherSide yX12_otherSide, .code yX12_otherSide cX12_otherSide 4 (some .int), .fieldLink RX12 37 "TalePlayModel" "isSaid" "[Z", .fieldLink RX12 25 "TalePlayModel" "form" "[I", .fieldLink RX12 34 "TalePlayModel" "right" "[I"] : List Cond) ++ wsX120)
set_option maxRecDepth 20000 in
theorem gm_X12_findExit_X12_isOf : GoodIn wm_X12_findExit (wsV RX12 184 RX12 yX12_isOf wm_X12_isOf) := goodIn_app (goodIn_of _ (by decide +kernel)) (goodIn_r _ [12, 13, 14, 22, 23, 24, 25, 26, 27, 28, 29, 30, 31, 32, 33, 34, 35, 36, 37, 38, 39, 40, 41, 42, 43, 44, 45, 46, 47, 48, 49, 50, 51, 52, 53, 54, 55, 56, 57, 58, 59, 60, 61, 62, 63, 64, 65, 66, 67, 68, 69, 70, 71, 72, 73, 74, 75, 76, 77, 78, 79, 80, 81, 82, 83, 84, 85, 86, 87, 88, 89, 90] (by decide +kernel) (by decide +kernel))
set_option maxRecDepth 20000 in
theorem gm_X12_findExit_X12_otherSide : GoodIn wm_X12_findExit (wsV RX12 276 RX12 yX12_otherSide wm_X12_otherSide) := goodIn_app (goodIn_of _ (by decide +kernel)) (goodIn_r _ [18, 5, 19, 20, 7, 6, 22, 23, 24, 25, 26, 27, 28, 29, 30, 31, 32, 33, 34, 35, 36, 37, 38, 39, 40, 41, 42, 43, 44, 45, 46, 47, 48, 49, 50, 51, 52, 53, 54, 55, 56, 57, 58, 59, 60, 61, 62, 63, 64, 65, 66, 67, 68, 69, 70, 71, 72, 73, 74, 75, 76, 77, 78, 79, 80, 81, 82, 83, 84, 85, 86, 87, 88, 89, 90] (by decide +kernel) (by decide +kernel))
set_option maxHeartbeats 4000000 in
set_option maxRecDepth 100000 in
theorem s_X12_findExit (l : Launch) (D : va_G) (sz : Nat) (o : Nat) (a : Nat → Nat) (t : Nat → ClassId) (i : Nat → Int32) (q : Int64) (c : Nat → Nat → Int32) (d : Nat → Nat → Int64) (r1 : Int32) (d1 : Int32) (hI : mInv i c) (hr1 : 0 ≤ r1.toInt ∧ r1.toInt ≤ 29) (hd1 : 0 ≤ d1.toInt ∧ d1.toInt ≤ 9) : Met l yX12_findExit wm_X12_findExit ({ frames := 1, cells := 0, slots := 0, locals := 23 }) (va_Pc [.ref o, .int r1, .int d1] (pB D sz (mW o a t i q c d) (mT t))) (va_Qi (fun (r : Int32) (u : MS) => (0 ≤ r.toInt ∧ r.toInt ≤ 1) ∧ mInv u.1 u.2.2.1 ∧ (∀ k, k ∉ ([16, 17, 18, 19] : List Nat) → u.1 k = i k) ∧ (∀ k, k ∉ ([] : List Nat) → u.2.2.1 k = c k)) (oC D (va_A (mW o a t i q c d) sz) (fun u : MS => mW o a t u.1 u.2.1 u.2.2.1 u.2.2.2) (fun _ => [])) (va_A (mW o a t i q c d) sz)) 0 0 (va_A (mW o a t i q c d) sz) := by
  refine Met.ofW (cc := cX12_findExit) (maxL := 6) (ret := (some .boolean)) (by decide) rfl ?_
  intro p e s m args below meth cd s₁ B hml hv
  obtain ⟨rfl, hsz, hP, hK, hD0⟩ := hv
  have hx := B.exec
  have hb := B.bytes
  have hr := B.returns
  have hts := atoms_spec (ws := wm_X12_findExit) B.pre
  have hown : s.vm.findClass RX12 = some m.cls := findClass_of_methodNamed B.named
  have hlocks := B.notSynchronized
  subst hsz
  have hD := hD0.self (sz := s.heap.size)
  generalize hAe : va_A (mW o a t i q c d) s.heap.size = A at hD ⊢
  have hA : ∀ q : Nat, s.heap.size ≤ q → A q := fun q h => by rw [← hAe]; exact Or.inr h
  have hS : va_S A s.heap s.heap [] := va_S.rf
  have hfi : ∀ k, k ∉ ([16, 17, 18, 19] : List Nat) → i k = i k := fun _ _ => rfl
  have hfc : ∀ k, k ∉ ([] : List Nat) → c k = c k := fun _ _ => rfl
  have hl := lv_entry ([.ref o, .int r1, .int d1]) (n := 6) (Nat.le_of_ble_eq_true rfl)
  rw [lg_entry_eq]
  generalize (lg_sl ([.ref o, .int r1, .int d1]) ++ List.replicate (6 - (lg_sl ([.ref o, .int r1, .int d1])).length) Slot.unset).toArray = ls at hl ⊢
  have hl : lv_has ls 6 [(0, .ref o), (1, .int r1), (2, .int d1)] := hl
  refine lv_aload_n hx hb dX12_findExit_0 rfl (lv_at hl 0 rfl) ?_
  refine lv_bipush (v := (-9)) hx hb dX12_findExit_1 (by decide) ?_
  refine va_put (D := D) (ci := 12) (v := .int (-9)) (ty := .int) (C := RX12) (T := TX12) (N := 69) hx hb hts (fun _ h => List.mem_cons_of_mem _ (List.mem_append_right _ h)) tyX12 tyX12_ok nmX12 hown hK hP hD hS 0 rfl rfl 16 (by decide) (hts (.fieldLink RX12 263 "TalePlayModel" "leads" "I") (by decide +kernel)) (fun _ h9 => h9) rfl (by decide +kernel) rfl rfl (Nat.le_of_ble_eq_true rfl) dX12_findExit_3 (fun H locs hP hD hS => ?_)
  have hI := mInv_i hI (k := 16) (v := (-9)) (show ((-9) : Int32).toInt = -9 ∨ (0 ≤ ((-9) : Int32).toInt ∧ ((-9) : Int32).toInt ≤ 29) from by decide)
  have hfi := fr_i hfi (k := 16) (v := (-9)) (by decide)
  have hP : va_P D vwCl (mW o a t (upd i 16 (-9)) q c d) H := hP
  have hD : va_D A (mW o a t (upd i 16 (-9)) q c d) := hD
  refine lv_aload_n hx hb dX12_findExit_6 rfl (lv_at hl 0 rfl) ?_
  refine lv_bipush (v := (-9)) hx hb dX12_findExit_7 (by decide) ?_
  refine va_put (D := D) (ci := 12) (v := .int (-9)) (ty := .int) (C := RX12) (T := TX12) (N := 69) hx hb hts (fun _ h => List.mem_cons_of_mem _ (List.mem_append_right _ h)) tyX12 tyX12_ok nmX12 hown hK hP hD hS 0 rfl rfl 17 (by decide) (hts (.fieldLink RX12 266 "TalePlayModel" "byDoor" "I") (by decide +kernel)) (fun _ h9 => h9) rfl (by decide +kernel) rfl rfl (Nat.le_of_ble_eq_true rfl) dX12_findExit_9 (fun H locs hP hD hS => ?_)
  have hI := mInv_i hI (k := 17) (v := (-9)) (show ((-9) : Int32).toInt = -9 ∨ (0 ≤ ((-9) : Int32).toInt ∧ ((-9) : Int32).toInt ≤ 29) from by decide)
  have hfi := fr_i hfi (k := 17) (v := (-9)) (by decide)
  have hP : va_P D vwCl (mW o a t (upd (upd i 16 (-9)) 17 (-9)) q c d) H := hP
  have hD : va_D A (mW o a t (upd (upd i 16 (-9)) 17 (-9)) q c d) := hD
  refine lv_aload_n hx hb dX12_findExit_12 rfl (lv_at hl 0 rfl) ?_
  refine lv_bipush (v := (-9)) hx hb dX12_findExit_13 (by decide) ?_
  refine va_put (D := D) (ci := 12) (v := .int (-9)) (ty := .int) (C := RX12) (T := TX12) (N := 69) hx hb hts (fun _ h => List.mem_cons_of_mem _ (List.mem_append_right _ h)) tyX12 tyX12_ok nmX12 hown hK hP hD hS 0 rfl rfl 18 (by decide) (hts (.fieldLink RX12 269 "TalePlayModel" "bySentence" "I") (by decide +kernel)) (fun _ h9 => h9) rfl (by decide +kernel) rfl rfl (Nat.le_of_ble_eq_true rfl) dX12_findExit_15 (fun H locs hP hD hS => ?_)
  have hI := mInv_i hI (k := 18) (v := (-9)) (show ((-9) : Int32).toInt = -9 ∨ (0 ≤ ((-9) : Int32).toInt ∧ ((-9) : Int32).toInt ≤ 199) from by decide)
  have hfi := fr_i hfi (k := 18) (v := (-9)) (by decide)
  have hP : va_P D vwCl (mW o a t (upd (upd (upd i 16 (-9)) 17 (-9)) 18 (-9)) q c d) H := hP
  have hD : va_D A (mW o a t (upd (upd (upd i 16 (-9)) 17 (-9)) 18 (-9)) q c d) := hD
  refine lv_aload_n hx hb dX12_findExit_18 rfl (lv_at hl 0 rfl) ?_
  refine lv_iconst (v := 0) hx hb dX12_findExit_19 (by decide) ?_
  refine va_put (D := D) (ci := 12) (v := .int 0) (ty := .boolean) (C := RX12) (T := TX12) (N := 69) hx hb hts (fun _ h => List.mem_cons_of_mem _ (List.mem_append_right _ h)) tyX12 tyX12_ok nmX12 hown hK hP hD hS 0 rfl rfl 19 (by decide) (hts (.fieldLink RX12 272 "TalePlayModel" "isImplied" "Z") (by decide +kernel)) (fun _ h9 => h9) rfl (by decide +kernel) rfl rfl (Nat.le_of_ble_eq_true rfl) dX12_findExit_20 (fun H locs hP hD hS => ?_)
  have hI := mInv_i hI (k := 19) (v := 0) (show 0 ≤ (0 : Int32).toInt ∧ (0 : Int32).toInt ≤ 1 from by decide)
  have hfi := fr_i hfi (k := 19) (v := 0) (by decide)
  have hP : va_P D vwCl (mW o a t (upd (upd (upd (upd i 16 (-9)) 17 (-9)) 18 (-9)) 19 0) q c d) H := hP
  have hD : va_D A (mW o a t (upd (upd (upd (upd i 16 (-9)) 17 (-9)) 18 (-9)) 19 0) q c d) := hD
  refine lv_iload_n hx hb dX12_findExit_23 rfl (lv_at hl 2 rfl) ?_
  refine lv_iconst (v := 2) hx hb dX12_findExit_24 (by decide) ?_
  refine lv_irem hx hb dX12_findExit_25 (by decide) ?_
  refine lv_topi (fun x1 ex1 => ?_)
  refine lv_if_ne (tgt := 35) hx hb dX12_findExit_26 (by decide) (fun c2 => ?_) (fun c2 => ?_)
  · have f2 := mt (ti_eq (a := x1.toInt) (b := 0) rfl (by decide)).mpr c2
    refine lv_iload_n hx hb dX12_findExit_35 rfl (lv_at hl 2 rfl) ?_
    refine lv_iconst (v := 1) hx hb dX12_findExit_36 (by decide) ?_
    refine lv_isub hx hb dX12_findExit_37 ?_
    refine lv_topi (fun x3 ex3 => ?_)
    have tx3 := ti_sub (a := d1.toInt) (b := 1) ex3 rfl (by decide) (by omega) (by omega)
    refine lv_istore_n (lv' := [(3, .int x3), (0, .ref o), (1, .int r1), (2, .int d1)]) hx hb dX12_findExit_38 rfl hl (by decide) rfl (fun ls hl => ?_)
    refine lv_bipush (v := (-9)) hx hb dX12_findExit_39 (by decide) ?_
    refine lv_istore (lv' := [(4, .int (-9)), (3, .int x3), (0, .ref o), (1, .int r1), (2, .int d1)]) hx hb dX12_findExit_41 hl (by decide) rfl (fun ls hl => ?_)
    refine lv_iconst (v := 0) hx hb dX12_findExit_43 (by decide) ?_
    refine lv_istore (lv' := [(5, .int 0), (4, .int (-9)), (3, .int x3), (0, .ref o), (1, .int r1), (2, .int d1)]) hx hb dX12_findExit_44 hl (by decide) rfl (fun ls hl => ?_)
    have lp4 : ∀ (fu : Nat) (i4 : Nat → Int32) (q4 : Int64) (c4 : Nat → Nat → Int32) (d4 : Nat → Nat → Int64) (y4_5 : Int32) (y4_4 : Int32), mInv i4 c4 → (∀ k, k ∉ ([16, 17, 18, 19] : List Nat) → i4 k = i k) → (∀ k, k ∉ ([] : List Nat) → c4 k = c k) → (0 ≤ y4_5.toInt ∧ y4_5.toInt ≤ 200) → (y4_4.toInt = -9 ∨ (0 ≤ y4_4.toInt ∧ y4_4.toInt ≤ 199)) → (200 - y4_5.toInt).toNat < fu → ∀ (H : Heap) (locs : List Loc) (ls : Array Slot), va_P D vwCl (mW o a t i4 q4 c4 d4) H → va_D A (mW o a t i4 q4 c4 d4) → va_S A s.heap H locs → lv_has ls 6 [(5, .int y4_5), (4, .int y4_4), (3, .int x3), (0, .ref o), (1, .int r1), (2, .int d1)] → W p l e (headSpec wm_X12_findExit ({ frames := 1, cells := 0, slots := 0, locals := 23 })).room s m ([.ref o, .int r1, .int d1] : List Value).toArray below meth cd H locs 0 0 (MQ below (va_Qi (fun (r : Int32) (u : MS) => (0 ≤ r.toInt ∧ r.toInt ≤ 1) ∧ mInv u.1 u.2.2.1 ∧ (∀ k, k ∉ ([16, 17, 18, 19] : List Nat) → u.1 k = i k) ∧ (∀ k, k ∉ ([] : List Nat) → u.2.2.1 k = c k)) (oC D A (fun u : MS => mW o a t u.1 u.2.1 u.2.2.1 u.2.2.2) (fun _ => [])) A) ([.ref o, .int r1, .int d1] : List Value).toArray s 0 0 A) (F0 m 46 ls []) := by
      intro fu
      induction fu with
      | zero => intro i4 q4 c4 d4 y4_5 y4_4 hI hfi hfc hy4_5 hy4_4 hm; exact absurd hm (Nat.not_lt_zero _)
      | succ fu ih =>
        intro i4 q4 c4 d4 y4_5 y4_4 hI hfi hfc hy4_5 hy4_4 hm H locs ls hP hD hS hl
        refine lv_iload hx hb dX12_findExit_46 (lv_at hl 0 rfl) ?_
        refine lv_aload_n hx hb dX12_findExit_48 rfl (lv_at hl 3 rfl) ?_
        refine va_get (D := D) (ci := 12) (v := .int (i4 8)) (C := RX12) (T := TX12) (N := 69) hx hb hts (fun _ h => List.mem_cons_of_mem _ (List.mem_append_right _ h)) hown hK hP 0 rfl rfl 8 (by decide) (hts (.fieldLink RX12 202 "TalePlayModel" "sentences" "I") (by decide +kernel)) (fun _ h9 => h9) rfl dX12_findExit_49 ?_
        have rb8_i4 : 0 ≤ (i4 8).toInt ∧ (i4 8).toInt ≤ 200 := hI.1 8
        refine lv_icmp_ge (tgt := 164) hx hb dX12_findExit_52 (by decide) (fun c5 => ?_) (fun c5 => ?_)
        · have f5 := (ti_le (a := (i4 8).toInt) (b := y4_5.toInt) rfl rfl).mp c5
          refine lv_aload_n hx hb dX12_findExit_164 rfl (lv_at hl 3 rfl) ?_
          refine va_get (D := D) (ci := 12) (v := .int (i4 18)) (C := RX12) (T := TX12) (N := 69) hx hb hts (fun _ h => List.mem_cons_of_mem _ (List.mem_append_right _ h)) hown hK hP 0 rfl rfl 18 (by decide) (hts (.fieldLink RX12 269 "TalePlayModel" "bySentence" "I") (by decide +kernel)) (fun _ h9 => h9) rfl dX12_findExit_165 ?_
          have rb18_i4 : (i4 18).toInt = -9 ∨ (0 ≤ (i4 18).toInt ∧ (i4 18).toInt ≤ 199) := hI.1 18
          refine lv_bipush (v := (-9)) hx hb dX12_findExit_168 (by decide) ?_
          refine lv_icmp_eq (tgt := 219) hx hb dX12_findExit_170 (by decide) (fun c6 => ?_) (fun c6 => ?_)
          · have f6 := (ti_eq (a := (i4 18).toInt) (b := (-9)) rfl (by decide)).mp c6
            refine lv_aload_n hx hb dX12_findExit_219 rfl (lv_at hl 3 rfl) ?_
            refine va_get (D := D) (ci := 12) (v := .int (i4 18)) (C := RX12) (T := TX12) (N := 69) hx hb hts (fun _ h => List.mem_cons_of_mem _ (List.mem_append_right _ h)) hown hK hP 0 rfl rfl 18 (by decide) (hts (.fieldLink RX12 269 "TalePlayModel" "bySentence" "I") (by decide +kernel)) (fun _ h9 => h9) rfl dX12_findExit_220 ?_
            refine lv_bipush (v := (-9)) hx hb dX12_findExit_223 (by decide) ?_
            refine lv_icmp_eq (tgt := 244) hx hb dX12_findExit_225 (by decide) (fun c7 => ?_) (fun c7 => ?_)
            · have f7 := (ti_eq (a := (i4 18).toInt) (b := (-9)) rfl (by decide)).mp c7
              refine lv_iload hx hb dX12_findExit_244 (lv_at hl 1 rfl) ?_
              refine lv_bipush (v := (-9)) hx hb dX12_findExit_246 (by decide) ?_
              refine lv_icmp_eq (tgt := 273) hx hb dX12_findExit_248 (by decide) (fun c8 => ?_) (fun c8 => ?_)
              · have f8 := (ti_eq (a := y4_4.toInt) (b := (-9)) rfl (by decide)).mp c8
                refine lv_aload_n hx hb dX12_findExit_273 rfl (lv_at hl 3 rfl) ?_
                refine va_get (D := D) (ci := 12) (v := .int (i4 18)) (C := RX12) (T := TX12) (N := 69) hx hb hts (fun _ h => List.mem_cons_of_mem _ (List.mem_append_right _ h)) hown hK hP 0 rfl rfl 18 (by decide) (hts (.fieldLink RX12 269 "TalePlayModel" "bySentence" "I") (by decide +kernel)) (fun _ h9 => h9) rfl dX12_findExit_274 ?_
                refine lv_bipush (v := (-9)) hx hb dX12_findExit_277 (by decide) ?_
                refine lv_icmp_eq (tgt := 286) hx hb dX12_findExit_279 (by decide) (fun c9 => ?_) (fun c9 => ?_)
                · have f9 := (ti_eq (a := (i4 18).toInt) (b := (-9)) rfl (by decide)).mp c9
                  refine lv_iconst (v := 0) hx hb dX12_findExit_286 (by decide) ?_
                  exact rw_zret (i4, q4, c4, d4) hx hb hr hlocks hS (hK.sub (tys' := []) [] rfl) hP hD rfl dX12_findExit_287 ⟨(show 0 ≤ (0 : Int32).toInt ∧ (0 : Int32).toInt ≤ 1 from by decide), hI, hfi, hfc⟩
                · have f9 := mt (ti_eq (a := (i4 18).toInt) (b := (-9)) rfl (by decide)).mpr c9
                  refine lv_iconst (v := 1) hx hb dX12_findExit_282 (by decide) ?_
                  refine lv_goto (tgt := 287) hx hb dX12_findExit_283 (by decide) ?_
                  exact rw_zret (i4, q4, c4, d4) hx hb hr hlocks hS (hK.sub (tys' := []) [] rfl) hP hD rfl dX12_findExit_287 ⟨(show 0 ≤ (1 : Int32).toInt ∧ (1 : Int32).toInt ≤ 1 from by decide), hI, hfi, hfc⟩
              · have f8 := mt (ti_eq (a := y4_4.toInt) (b := (-9)) rfl (by decide)).mpr c8
                refine lv_aload_n hx hb dX12_findExit_251 rfl (lv_at hl 3 rfl) ?_
                refine lv_iload hx hb dX12_findExit_252 (lv_at hl 1 rfl) ?_
                refine va_put (D := D) (ci := 12) (v := .int y4_4) (ty := .int) (C := RX12) (T := TX12) (N := 69) hx hb hts (fun _ h => List.mem_cons_of_mem _ (List.mem_append_right _ h)) tyX12 tyX12_ok nmX12 hown hK hP hD hS 0 rfl rfl 18 (by decide) (hts (.fieldLink RX12 269 "TalePlayModel" "bySentence" "I") (by decide +kernel)) (fun _ h9 => h9) rfl (by decide +kernel) rfl rfl (Nat.le_of_ble_eq_true rfl) dX12_findExit_254 (fun H locs hP hD hS => ?_)
                have hI := mInv_i hI (k := 18) (v := y4_4) (show (y4_4 : Int32).toInt = -9 ∨ (0 ≤ (y4_4 : Int32).toInt ∧ (y4_4 : Int32).toInt ≤ 199) from by omega)
                have hfi := fr_i hfi (k := 18) (v := y4_4) (by decide)
                have hP : va_P D vwCl (mW o a t (upd i4 18 y4_4) q4 c4 d4) H := hP
                have hD : va_D A (mW o a t (upd i4 18 y4_4) q4 c4 d4) := hD
                refine lv_aload_n hx hb dX12_findExit_257 rfl (lv_at hl 3 rfl) ?_
                refine lv_iconst (v := 1) hx hb dX12_findExit_258 (by decide) ?_
                refine va_put (D := D) (ci := 12) (v := .int 1) (ty := .boolean) (C := RX12) (T := TX12) (N := 69) hx hb hts (fun _ h => List.mem_cons_of_mem _ (List.mem_append_right _ h)) tyX12 tyX12_ok nmX12 hown hK hP hD hS 0 rfl rfl 19 (by decide) (hts (.fieldLink RX12 272 "TalePlayModel" "isImplied" "Z") (by decide +kernel)) (fun _ h9 => h9) rfl (by decide +kernel) rfl rfl (Nat.le_of_ble_eq_true rfl) dX12_findExit_259 (fun H locs hP hD hS => ?_)
                have hI := mInv_i hI (k := 19) (v := 1) (show 0 ≤ (1 : Int32).toInt ∧ (1 : Int32).toInt ≤ 1 from by decide)
                have hfi := fr_i hfi (k := 19) (v := 1) (by decide)
                have hP : va_P D vwCl (mW o a t (upd (upd i4 18 y4_4) 19 1) q4 c4 d4) H := hP
                have hD : va_D A (mW o a t (upd (upd i4 18 y4_4) 19 1) q4 c4 d4) := hD
                refine lv_aload_n hx hb dX12_findExit_262 rfl (lv_at hl 3 rfl) ?_
                refine lv_aload_n hx hb dX12_findExit_263 rfl (lv_at hl 3 rfl) ?_
                refine va_get (D := D) (ci := 12) (v := .ref (a 10)) (C := RX12) (T := TX12) (N := 69) hx hb hts (fun _ h => List.mem_cons_of_mem _ (List.mem_append_right _ h)) hown hK hP 0 rfl rfl 10 (by decide) (hts (.fieldLink RX12 28 "TalePlayModel" "left" "[I") (by decide +kernel)) (fun _ h9 => h9) rfl dX12_findExit_264 ?_
                refine lv_iload hx hb dX12_findExit_267 (lv_at hl 1 rfl) ?_
                refine va_iald hx hb hK hP 7 6 rfl rfl (vp_in_iff.mpr (by have h9 : y4_4.toInt = y4_4.toInt := rfl; omega)) dX12_findExit_269 ?_
                refine lv_topi (fun x10 ex10 => ?_)
                have rx10 : 0 ≤ x10.toInt ∧ x10.toInt ≤ 29 := by rw [ex10]; exact hI.2 10 _
                refine va_put (D := D) (ci := 12) (v := .int x10) (ty := .int) (C := RX12) (T := TX12) (N := 69) hx hb hts (fun _ h => List.mem_cons_of_mem _ (List.mem_append_right _ h)) tyX12 tyX12_ok nmX12 hown hK hP hD hS 0 rfl rfl 16 (by decide) (hts (.fieldLink RX12 263 "TalePlayModel" "leads" "I") (by decide +kernel)) (fun _ h9 => h9) rfl (by decide +kernel) rfl rfl (Nat.le_of_ble_eq_true rfl) dX12_findExit_270 (fun H locs hP hD hS => ?_)
                have hI := mInv_i hI (k := 16) (v := x10) (show (x10 : Int32).toInt = -9 ∨ (0 ≤ (x10 : Int32).toInt ∧ (x10 : Int32).toInt ≤ 29) from by omega)
                have hfi := fr_i hfi (k := 16) (v := x10) (by decide)
                have hP : va_P D vwCl (mW o a t (upd (upd (upd i4 18 y4_4) 19 1) 16 x10) q4 c4 d4) H := hP
                have hD : va_D A (mW o a t (upd (upd (upd i4 18 y4_4) 19 1) 16 x10) q4 c4 d4) := hD
                refine lv_aload_n hx hb dX12_findExit_273 rfl (lv_at hl 3 rfl) ?_
                refine va_get (D := D) (ci := 12) (v := .int y4_4) (C := RX12) (T := TX12) (N := 69) hx hb hts (fun _ h => List.mem_cons_of_mem _ (List.mem_append_right _ h)) hown hK hP 0 rfl rfl 18 (by decide) (hts (.fieldLink RX12 269 "TalePlayModel" "bySentence" "I") (by decide +kernel)) (fun _ h9 => h9) rfl dX12_findExit_274 ?_
                refine lv_bipush (v := (-9)) hx hb dX12_findExit_277 (by decide) ?_
                refine lv_icmp_eq (tgt := 286) hx hb dX12_findExit_279 (by decide) (fun c11 => ?_) (fun c11 => ?_)
                · have f11 := (ti_eq (a := y4_4.toInt) (b := (-9)) rfl (by decide)).mp c11
                  refine lv_iconst (v := 0) hx hb dX12_findExit_286 (by decide) ?_
                  exact rw_zret ((upd (upd (upd i4 18 y4_4) 19 1) 16 x10), q4, c4, d4) hx hb hr hlocks hS (hK.sub (tys' := []) [] rfl) hP hD rfl dX12_findExit_287 ⟨(show 0 ≤ (0 : Int32).toInt ∧ (0 : Int32).toInt ≤ 1 from by decide), hI, hfi, hfc⟩
                · have f11 := mt (ti_eq (a := y4_4.toInt) (b := (-9)) rfl (by decide)).mpr c11
                  refine lv_iconst (v := 1) hx hb dX12_findExit_282 (by decide) ?_
                  refine lv_goto (tgt := 287) hx hb dX12_findExit_283 (by decide) ?_
                  exact rw_zret ((upd (upd (upd i4 18 y4_4) 19 1) 16 x10), q4, c4, d4) hx hb hr hlocks hS (hK.sub (tys' := []) [] rfl) hP hD rfl dX12_findExit_287 ⟨(show 0 ≤ (1 : Int32).toInt ∧ (1 : Int32).toInt ≤ 1 from by decide), hI, hfi, hfc⟩
            · have f7 := mt (ti_eq (a := (i4 18).toInt) (b := (-9)) rfl (by decide)).mpr c7
              refine lv_aload_n hx hb dX12_findExit_228 rfl (lv_at hl 3 rfl) ?_
              refine lv_aload_n hx hb dX12_findExit_229 rfl (lv_at hl 3 rfl) ?_
              refine va_get (D := D) (ci := 12) (v := .ref (a 11)) (C := RX12) (T := TX12) (N := 69) hx hb hts (fun _ h => List.mem_cons_of_mem _ (List.mem_append_right _ h)) hown hK hP 0 rfl rfl 11 (by decide) (hts (.fieldLink RX12 31 "TalePlayModel" "middle" "[I") (by decide +kernel)) (fun _ h9 => h9) rfl dX12_findExit_230 ?_
              refine lv_aload_n hx hb dX12_findExit_233 rfl (lv_at hl 3 rfl) ?_
              refine va_get (D := D) (ci := 12) (v := .int (i4 18)) (C := RX12) (T := TX12) (N := 69) hx hb hts (fun _ h => List.mem_cons_of_mem _ (List.mem_append_right _ h)) hown hK hP 0 rfl rfl 18 (by decide) (hts (.fieldLink RX12 269 "TalePlayModel" "bySentence" "I") (by decide +kernel)) (fun _ h9 => h9) rfl dX12_findExit_234 ?_
              refine va_iald hx hb hK hP 8 7 rfl rfl (vp_in_iff.mpr (by have h9 : (i4 18).toInt = (i4 18).toInt := rfl; omega)) dX12_findExit_237 ?_
              refine lv_topi (fun x12 ex12 => ?_)
              have rx12 : 0 ≤ x12.toInt ∧ x12.toInt ≤ 29 := by rw [ex12]; exact hI.2 11 _
              refine va_put (D := D) (ci := 12) (v := .int x12) (ty := .int) (C := RX12) (T := TX12) (N := 69) hx hb hts (fun _ h => List.mem_cons_of_mem _ (List.mem_append_right _ h)) tyX12 tyX12_ok nmX12 hown hK hP hD hS 0 rfl rfl 16 (by decide) (hts (.fieldLink RX12 263 "TalePlayModel" "leads" "I") (by decide +kernel)) (fun _ h9 => h9) rfl (by decide +kernel) rfl rfl (Nat.le_of_ble_eq_true rfl) dX12_findExit_238 (fun H locs hP hD hS => ?_)
              have hI := mInv_i hI (k := 16) (v := x12) (show (x12 : Int32).toInt = -9 ∨ (0 ≤ (x12 : Int32).toInt ∧ (x12 : Int32).toInt ≤ 29) from by omega)
              have hfi := fr_i hfi (k := 16) (v := x12) (by decide)
              have hP : va_P D vwCl (mW o a t (upd i4 16 x12) q4 c4 d4) H := hP
              have hD : va_D A (mW o a t (upd i4 16 x12) q4 c4 d4) := hD
              refine lv_goto (tgt := 273) hx hb dX12_findExit_241 (by decide) ?_
              refine lv_aload_n hx hb dX12_findExit_273 rfl (lv_at hl 3 rfl) ?_
              refine va_get (D := D) (ci := 12) (v := .int (i4 18)) (C := RX12) (T := TX12) (N := 69) hx hb hts (fun _ h => List.mem_cons_of_mem _ (List.mem_append_right _ h)) hown hK hP 0 rfl rfl 18 (by decide) (hts (.fieldLink RX12 269 "TalePlayModel" "bySentence" "I") (by decide +kernel)) (fun _ h9 => h9) rfl dX12_findExit_274 ?_
              refine lv_bipush (v := (-9)) hx hb dX12_findExit_277 (by decide) ?_
              refine lv_icmp_eq (tgt := 286) hx hb dX12_findExit_279 (by decide) (fun c13 => ?_) (fun c13 => ?_)
              · have f13 := (ti_eq (a := (i4 18).toInt) (b := (-9)) rfl (by decide)).mp c13
                refine lv_iconst (v := 0) hx hb dX12_findExit_286 (by decide) ?_
                exact rw_zret ((upd i4 16 x12), q4, c4, d4) hx hb hr hlocks hS (hK.sub (tys' := []) [] rfl) hP hD rfl dX12_findExit_287 ⟨(show 0 ≤ (0 : Int32).toInt ∧ (0 : Int32).toInt ≤ 1 from by decide), hI, hfi, hfc⟩
              · have f13 := mt (ti_eq (a := (i4 18).toInt) (b := (-9)) rfl (by decide)).mpr c13
                refine lv_iconst (v := 1) hx hb dX12_findExit_282 (by decide) ?_
                refine lv_goto (tgt := 287) hx hb dX12_findExit_283 (by decide) ?_
                exact rw_zret ((upd i4 16 x12), q4, c4, d4) hx hb hr hlocks hS (hK.sub (tys' := []) [] rfl) hP hD rfl dX12_findExit_287 ⟨(show 0 ≤ (1 : Int32).toInt ∧ (1 : Int32).toInt ≤ 1 from by decide), hI, hfi, hfc⟩
          · have f6 := mt (ti_eq (a := (i4 18).toInt) (b := (-9)) rfl (by decide)).mpr c6
            refine lv_aload_n hx hb dX12_findExit_173 rfl (lv_at hl 3 rfl) ?_
            refine lv_aload_n hx hb dX12_findExit_174 rfl (lv_at hl 3 rfl) ?_
            refine va_get (D := D) (ci := 12) (v := .ref (a 11)) (C := RX12) (T := TX12) (N := 69) hx hb hts (fun _ h => List.mem_cons_of_mem _ (List.mem_append_right _ h)) hown hK hP 0 rfl rfl 11 (by decide) (hts (.fieldLink RX12 31 "TalePlayModel" "middle" "[I") (by decide +kernel)) (fun _ h9 => h9) rfl dX12_findExit_175 ?_
            refine lv_aload_n hx hb dX12_findExit_178 rfl (lv_at hl 3 rfl) ?_
            refine va_get (D := D) (ci := 12) (v := .int (i4 18)) (C := RX12) (T := TX12) (N := 69) hx hb hts (fun _ h => List.mem_cons_of_mem _ (List.mem_append_right _ h)) hown hK hP 0 rfl rfl 18 (by decide) (hts (.fieldLink RX12 269 "TalePlayModel" "bySentence" "I") (by decide +kernel)) (fun _ h9 => h9) rfl dX12_findExit_179 ?_
            refine va_iald hx hb hK hP 8 7 rfl rfl (vp_in_iff.mpr (by have h9 : (i4 18).toInt = (i4 18).toInt := rfl; omega)) dX12_findExit_182 ?_
            refine lv_topi (fun x14 ex14 => ?_)
            have rx14 : 0 ≤ x14.toInt ∧ x14.toInt ≤ 29 := by rw [ex14]; exact hI.2 11 _
            refine lv_iconst (v := 2) hx hb dX12_findExit_183 (by decide) ?_
            refine ro_calli (va_runV (As := [.int x14, .int 2]) (rest := []) ⟨hx, hb, hml, hown, hts⟩ (s_X12_isOf l D H.size o a t i4 q4 c4 d4 x14 2 hI (by have h91 : (2 : Int32).toInt = 2 := (by decide); omega)) (cwV 2 hts gm_X12_findExit_X12_isOf rfl rfl rfl (by decide +kernel) ⟨Nat.le_of_ble_eq_true rfl, Nat.le_of_ble_eq_true rfl⟩) (pA_V hK hP (ci := 12) (q0 := 0) rfl rfl) rfl rfl hl.1 rfl (lv_room (Nat.le_of_ble_eq_true rfl)) dX12_findExit_184 ⟨Nat.le_of_ble_eq_true rfl, Nat.le_of_ble_eq_true rfl⟩) hS hA hP (fun r15 u15 H locs hw15 hP hS => ?_)
            have hw15 : 0 ≤ r15.toInt ∧ r15.toInt ≤ 1 := hw15
            refine lv_if_eq (tgt := 219) hx hb dX12_findExit_187 (by decide) (fun c16 => ?_) (fun c16 => ?_)
            · have f16 := (ti_eq (a := r15.toInt) (b := 0) rfl (by decide)).mp c16
              refine lv_aload_n hx hb dX12_findExit_219 rfl (lv_at hl 3 rfl) ?_
              refine va_get (D := D) (ci := 12) (v := .int (i4 18)) (C := RX12) (T := TX12) (N := 69) hx hb hts (fun _ h => List.mem_cons_of_mem _ (List.mem_append_right _ h)) hown hK hP 0 rfl rfl 18 (by decide) (hts (.fieldLink RX12 269 "TalePlayModel" "bySentence" "I") (by decide +kernel)) (fun _ h9 => h9) rfl dX12_findExit_220 ?_
              refine lv_bipush (v := (-9)) hx hb dX12_findExit_223 (by decide) ?_
              refine lv_icmp_eq (tgt := 244) hx hb dX12_findExit_225 (by decide) (fun c17 => ?_) (fun c17 => ?_)
              · have f17 := (ti_eq (a := (i4 18).toInt) (b := (-9)) rfl (by decide)).mp c17
                refine lv_iload hx hb dX12_findExit_244 (lv_at hl 1 rfl) ?_
                refine lv_bipush (v := (-9)) hx hb dX12_findExit_246 (by decide) ?_
                refine lv_icmp_eq (tgt := 273) hx hb dX12_findExit_248 (by decide) (fun c18 => ?_) (fun c18 => ?_)
                · have f18 := (ti_eq (a := y4_4.toInt) (b := (-9)) rfl (by decide)).mp c18
                  refine lv_aload_n hx hb dX12_findExit_273 rfl (lv_at hl 3 rfl) ?_
                  refine va_get (D := D) (ci := 12) (v := .int (i4 18)) (C := RX12) (T := TX12) (N := 69) hx hb hts (fun _ h => List.mem_cons_of_mem _ (List.mem_append_right _ h)) hown hK hP 0 rfl rfl 18 (by decide) (hts (.fieldLink RX12 269 "TalePlayModel" "bySentence" "I") (by decide +kernel)) (fun _ h9 => h9) rfl dX12_findExit_274 ?_
                  refine lv_bipush (v := (-9)) hx hb dX12_findExit_277 (by decide) ?_
                  refine lv_icmp_eq (tgt := 286) hx hb dX12_findExit_279 (by decide) (fun c19 => ?_) (fun c19 => ?_)
                  · have f19 := (ti_eq (a := (i4 18).toInt) (b := (-9)) rfl (by decide)).mp c19
                    refine lv_iconst (v := 0) hx hb dX12_findExit_286 (by decide) ?_
                    exact rw_zret (i4, q4, c4, d4) hx hb hr hlocks hS (hK.sub (tys' := []) [] rfl) hP hD rfl dX12_findExit_287 ⟨(show 0 ≤ (0 : Int32).toInt ∧ (0 : Int32).toInt ≤ 1 from by decide), hI, hfi, hfc⟩
                  · have f19 := mt (ti_eq (a := (i4 18).toInt) (b := (-9)) rfl (by decide)).mpr c19
                    refine lv_iconst (v := 1) hx hb dX12_findExit_282 (by decide) ?_
                    refine lv_goto (tgt := 287) hx hb dX12_findExit_283 (by decide) ?_
                    exact rw_zret (i4, q4, c4, d4) hx hb hr hlocks hS (hK.sub (tys' := []) [] rfl) hP hD rfl dX12_findExit_287 ⟨(show 0 ≤ (1 : Int32).toInt ∧ (1 : Int32).toInt ≤ 1 from by decide), hI, hfi, hfc⟩
                · have f18 := mt (ti_eq (a := y4_4.toInt) (b := (-9)) rfl (by decide)).mpr c18
                  refine lv_aload_n hx hb dX12_findExit_251 rfl (lv_at hl 3 rfl) ?_
                  refine lv_iload hx hb dX12_findExit_252 (lv_at hl 1 rfl) ?_
                  refine va_put (D := D) (ci := 12) (v := .int y4_4) (ty := .int) (C := RX12) (T := TX12) (N := 69) hx hb hts (fun _ h => List.mem_cons_of_mem _ (List.mem_append_right _ h)) tyX12 tyX12_ok nmX12 hown hK hP hD hS 0 rfl rfl 18 (by decide) (hts (.fieldLink RX12 269 "TalePlayModel" "bySentence" "I") (by decide +kernel)) (fun _ h9 => h9) rfl (by decide +kernel) rfl rfl (Nat.le_of_ble_eq_true rfl) dX12_findExit_254 (fun H locs hP hD hS => ?_)
                  have hI := mInv_i hI (k := 18) (v := y4_4) (show (y4_4 : Int32).toInt = -9 ∨ (0 ≤ (y4_4 : Int32).toInt ∧ (y4_4 : Int32).toInt ≤ 199) from by omega)
                  have hfi := fr_i hfi (k := 18) (v := y4_4) (by decide)
                  have hP : va_P D vwCl (mW o a t (upd i4 18 y4_4) q4 c4 d4) H := hP
                  have hD : va_D A (mW o a t (upd i4 18 y4_4) q4 c4 d4) := hD
                  refine lv_aload_n hx hb dX12_findExit_257 rfl (lv_at hl 3 rfl) ?_
                  refine lv_iconst (v := 1) hx hb dX12_findExit_258 (by decide) ?_
                  refine va_put (D := D) (ci := 12) (v := .int 1) (ty := .boolean) (C := RX12) (T := TX12) (N := 69) hx hb hts (fun _ h => List.mem_cons_of_mem _ (List.mem_append_right _ h)) tyX12 tyX12_ok nmX12 hown hK hP hD hS 0 rfl rfl 19 (by decide) (hts (.fieldLink RX12 272 "TalePlayModel" "isImplied" "Z") (by decide +kernel)) (fun _ h9 => h9) rfl (by decide +kernel) rfl rfl (Nat.le_of_ble_eq_true rfl) dX12_findExit_259 (fun H locs hP hD hS => ?_)
                  have hI := mInv_i hI (k := 19) (v := 1) (show 0 ≤ (1 : Int32).toInt ∧ (1 : Int32).toInt ≤ 1 from by decide)
                  have hfi := fr_i hfi (k := 19) (v := 1) (by decide)
                  have hP : va_P D vwCl (mW o a t (upd (upd i4 18 y4_4) 19 1) q4 c4 d4) H := hP
                  have hD : va_D A (mW o a t (upd (upd i4 18 y4_4) 19 1) q4 c4 d4) := hD
                  refine lv_aload_n hx hb dX12_findExit_262 rfl (lv_at hl 3 rfl) ?_
                  refine lv_aload_n hx hb dX12_findExit_263 rfl (lv_at hl 3 rfl) ?_
                  refine va_get (D := D) (ci := 12) (v := .ref (a 10)) (C := RX12) (T := TX12) (N := 69) hx hb hts (fun _ h => List.mem_cons_of_mem _ (List.mem_append_right _ h)) hown hK hP 0 rfl rfl 10 (by decide) (hts (.fieldLink RX12 28 "TalePlayModel" "left" "[I") (by decide +kernel)) (fun _ h9 => h9) rfl dX12_findExit_264 ?_
                  refine lv_iload hx hb dX12_findExit_267 (lv_at hl 1 rfl) ?_
                  refine va_iald hx hb hK hP 7 6 rfl rfl (vp_in_iff.mpr (by have h9 : y4_4.toInt = y4_4.toInt := rfl; omega)) dX12_findExit_269 ?_
                  refine lv_topi (fun x20 ex20 => ?_)
                  have rx20 : 0 ≤ x20.toInt ∧ x20.toInt ≤ 29 := by rw [ex20]; exact hI.2 10 _
                  refine va_put (D := D) (ci := 12) (v := .int x20) (ty := .int) (C := RX12) (T := TX12) (N := 69) hx hb hts (fun _ h => List.mem_cons_of_mem _ (List.mem_append_right _ h)) tyX12 tyX12_ok nmX12 hown hK hP hD hS 0 rfl rfl 16 (by decide) (hts (.fieldLink RX12 263 "TalePlayModel" "leads" "I") (by decide +kernel)) (fun _ h9 => h9) rfl (by decide +kernel) rfl rfl (Nat.le_of_ble_eq_true rfl) dX12_findExit_270 (fun H locs hP hD hS => ?_)
                  have hI := mInv_i hI (k := 16) (v := x20) (show (x20 : Int32).toInt = -9 ∨ (0 ≤ (x20 : Int32).toInt ∧ (x20 : Int32).toInt ≤ 29) from by omega)
                  have hfi := fr_i hfi (k := 16) (v := x20) (by decide)
                  have hP : va_P D vwCl (mW o a t (upd (upd (upd i4 18 y4_4) 19 1) 16 x20) q4 c4 d4) H := hP
                  have hD : va_D A (mW o a t (upd (upd (upd i4 18 y4_4) 19 1) 16 x20) q4 c4 d4) := hD
                  refine lv_aload_n hx hb dX12_findExit_273 rfl (lv_at hl 3 rfl) ?_
                  refine va_get (D := D) (ci := 12) (v := .int y4_4) (C := RX12) (T := TX12) (N := 69) hx hb hts (fun _ h => List.mem_cons_of_mem _ (List.mem_append_right _ h)) hown hK hP 0 rfl rfl 18 (by decide) (hts (.fieldLink RX12 269 "TalePlayModel" "bySentence" "I") (by decide +kernel)) (fun _ h9 => h9) rfl dX12_findExit_274 ?_
                  refine lv_bipush (v := (-9)) hx hb dX12_findExit_277 (by decide) ?_
                  refine lv_icmp_eq (tgt := 286) hx hb dX12_findExit_279 (by decide) (fun c21 => ?_) (fun c21 => ?_)
                  · have f21 := (ti_eq (a := y4_4.toInt) (b := (-9)) rfl (by decide)).mp c21
                    refine lv_iconst (v := 0) hx hb dX12_findExit_286 (by decide) ?_
                    exact rw_zret ((upd (upd (upd i4 18 y4_4) 19 1) 16 x20), q4, c4, d4) hx hb hr hlocks hS (hK.sub (tys' := []) [] rfl) hP hD rfl dX12_findExit_287 ⟨(show 0 ≤ (0 : Int32).toInt ∧ (0 : Int32).toInt ≤ 1 from by decide), hI, hfi, hfc⟩
                  · have f21 := mt (ti_eq (a := y4_4.toInt) (b := (-9)) rfl (by decide)).mpr c21
                    refine lv_iconst (v := 1) hx hb dX12_findExit_282 (by decide) ?_
                    refine lv_goto (tgt := 287) hx hb dX12_findExit_283 (by decide) ?_
                    exact rw_zret ((upd (upd (upd i4 18 y4_4) 19 1) 16 x20), q4, c4, d4) hx hb hr hlocks hS (hK.sub (tys' := []) [] rfl) hP hD rfl dX12_findExit_287 ⟨(show 0 ≤ (1 : Int32).toInt ∧ (1 : Int32).toInt ≤ 1 from by decide), hI, hfi, hfc⟩
              · have f17 := mt (ti_eq (a := (i4 18).toInt) (b := (-9)) rfl (by decide)).mpr c17
                refine lv_aload_n hx hb dX12_findExit_228 rfl (lv_at hl 3 rfl) ?_
                refine lv_aload_n hx hb dX12_findExit_229 rfl (lv_at hl 3 rfl) ?_
                refine va_get (D := D) (ci := 12) (v := .ref (a 11)) (C := RX12) (T := TX12) (N := 69) hx hb hts (fun _ h => List.mem_cons_of_mem _ (List.mem_append_right _ h)) hown hK hP 0 rfl rfl 11 (by decide) (hts (.fieldLink RX12 31 "TalePlayModel" "middle" "[I") (by decide +kernel)) (fun _ h9 => h9) rfl dX12_findExit_230 ?_
                refine lv_aload_n hx hb dX12_findExit_233 rfl (lv_at hl 3 rfl) ?_
                refine va_get (D := D) (ci := 12) (v := .int (i4 18)) (C := RX12) (T := TX12) (N := 69) hx hb hts (fun _ h => List.mem_cons_of_mem _ (List.mem_append_right _ h)) hown hK hP 0 rfl rfl 18 (by decide) (hts (.fieldLink RX12 269 "TalePlayModel" "bySentence" "I") (by decide +kernel)) (fun _ h9 => h9) rfl dX12_findExit_234 ?_
                refine va_iald hx hb hK hP 8 7 rfl rfl (vp_in_iff.mpr (by have h9 : (i4 18).toInt = (i4 18).toInt := rfl; omega)) dX12_findExit_237 ?_
                refine lv_topi (fun x22 ex22 => ?_)
                have rx22 : 0 ≤ x22.toInt ∧ x22.toInt ≤ 29 := by rw [ex22]; exact hI.2 11 _
                refine va_put (D := D) (ci := 12) (v := .int x22) (ty := .int) (C := RX12) (T := TX12) (N := 69) hx hb hts (fun _ h => List.mem_cons_of_mem _ (List.mem_append_right _ h)) tyX12 tyX12_ok nmX12 hown hK hP hD hS 0 rfl rfl 16 (by decide) (hts (.fieldLink RX12 263 "TalePlayModel" "leads" "I") (by decide +kernel)) (fun _ h9 => h9) rfl (by decide +kernel) rfl rfl (Nat.le_of_ble_eq_true rfl) dX12_findExit_238 (fun H locs hP hD hS => ?_)
                have hI := mInv_i hI (k := 16) (v := x22) (show (x22 : Int32).toInt = -9 ∨ (0 ≤ (x22 : Int32).toInt ∧ (x22 : Int32).toInt ≤ 29) from by omega)
                have hfi := fr_i hfi (k := 16) (v := x22) (by decide)
                have hP : va_P D vwCl (mW o a t (upd i4 16 x22) q4 c4 d4) H := hP
                have hD : va_D A (mW o a t (upd i4 16 x22) q4 c4 d4) := hD
                refine lv_goto (tgt := 273) hx hb dX12_findExit_241 (by decide) ?_
                refine lv_aload_n hx hb dX12_findExit_273 rfl (lv_at hl 3 rfl) ?_
                refine va_get (D := D) (ci := 12) (v := .int (i4 18)) (C := RX12) (T := TX12) (N := 69) hx hb hts (fun _ h => List.mem_cons_of_mem _ (List.mem_append_right _ h)) hown hK hP 0 rfl rfl 18 (by decide) (hts (.fieldLink RX12 269 "TalePlayModel" "bySentence" "I") (by decide +kernel)) (fun _ h9 => h9) rfl dX12_findExit_274 ?_
                refine lv_bipush (v := (-9)) hx hb dX12_findExit_277 (by decide) ?_
                refine lv_icmp_eq (tgt := 286) hx hb dX12_findExit_279 (by decide) (fun c23 => ?_) (fun c23 => ?_)
                · have f23 := (ti_eq (a := (i4 18).toInt) (b := (-9)) rfl (by decide)).mp c23
                  refine lv_iconst (v := 0) hx hb dX12_findExit_286 (by decide) ?_
                  exact rw_zret ((upd i4 16 x22), q4, c4, d4) hx hb hr hlocks hS (hK.sub (tys' := []) [] rfl) hP hD rfl dX12_findExit_287 ⟨(show 0 ≤ (0 : Int32).toInt ∧ (0 : Int32).toInt ≤ 1 from by decide), hI, hfi, hfc⟩
                · have f23 := mt (ti_eq (a := (i4 18).toInt) (b := (-9)) rfl (by decide)).mpr c23
                  refine lv_iconst (v := 1) hx hb dX12_findExit_282 (by decide) ?_
                  refine lv_goto (tgt := 287) hx hb dX12_findExit_283 (by decide) ?_
                  exact rw_zret ((upd i4 16 x22), q4, c4, d4) hx hb hr hlocks hS (hK.sub (tys' := []) [] rfl) hP hD rfl dX12_findExit_287 ⟨(show 0 ≤ (1 : Int32).toInt ∧ (1 : Int32).toInt ≤ 1 from by decide), hI, hfi, hfc⟩
            · have f16 := mt (ti_eq (a := r15.toInt) (b := 0) rfl (by decide)).mpr c16
              refine lv_aload_n hx hb dX12_findExit_190 rfl (lv_at hl 3 rfl) ?_
              refine lv_aload_n hx hb dX12_findExit_191 rfl (lv_at hl 3 rfl) ?_
              refine va_get (D := D) (ci := 12) (v := .ref (a 11)) (C := RX12) (T := TX12) (N := 69) hx hb hts (fun _ h => List.mem_cons_of_mem _ (List.mem_append_right _ h)) hown hK hP 0 rfl rfl 11 (by decide) (hts (.fieldLink RX12 31 "TalePlayModel" "middle" "[I") (by decide +kernel)) (fun _ h9 => h9) rfl dX12_findExit_192 ?_
              refine lv_aload_n hx hb dX12_findExit_195 rfl (lv_at hl 3 rfl) ?_
              refine va_get (D := D) (ci := 12) (v := .int (i4 18)) (C := RX12) (T := TX12) (N := 69) hx hb hts (fun _ h => List.mem_cons_of_mem _ (List.mem_append_right _ h)) hown hK hP 0 rfl rfl 18 (by decide) (hts (.fieldLink RX12 269 "TalePlayModel" "bySentence" "I") (by decide +kernel)) (fun _ h9 => h9) rfl dX12_findExit_196 ?_
              refine va_iald hx hb hK hP 8 7 rfl rfl (vp_in_iff.mpr (by have h9 : (i4 18).toInt = (i4 18).toInt := rfl; omega)) dX12_findExit_199 ?_
              refine lv_topi (fun x24 ex24 => ?_)
              have rx24 : 0 ≤ x24.toInt ∧ x24.toInt ≤ 29 := by rw [ex24]; exact hI.2 11 _
              refine va_put (D := D) (ci := 12) (v := .int x24) (ty := .int) (C := RX12) (T := TX12) (N := 69) hx hb hts (fun _ h => List.mem_cons_of_mem _ (List.mem_append_right _ h)) tyX12 tyX12_ok nmX12 hown hK hP hD hS 0 rfl rfl 17 (by decide) (hts (.fieldLink RX12 266 "TalePlayModel" "byDoor" "I") (by decide +kernel)) (fun _ h9 => h9) rfl (by decide +kernel) rfl rfl (Nat.le_of_ble_eq_true rfl) dX12_findExit_200 (fun H locs hP hD hS => ?_)
              have hI := mInv_i hI (k := 17) (v := x24) (show (x24 : Int32).toInt = -9 ∨ (0 ≤ (x24 : Int32).toInt ∧ (x24 : Int32).toInt ≤ 29) from by omega)
              have hfi := fr_i hfi (k := 17) (v := x24) (by decide)
              have hP : va_P D vwCl (mW o a t (upd i4 17 x24) q4 c4 d4) H := hP
              have hD : va_D A (mW o a t (upd i4 17 x24) q4 c4 d4) := hD
              refine lv_aload_n hx hb dX12_findExit_203 rfl (lv_at hl 3 rfl) ?_
              refine lv_aload_n hx hb dX12_findExit_204 rfl (lv_at hl 3 rfl) ?_
              refine lv_aload_n hx hb dX12_findExit_205 rfl (lv_at hl 3 rfl) ?_
              refine va_get (D := D) (ci := 12) (v := .int x24) (C := RX12) (T := TX12) (N := 69) hx hb hts (fun _ h => List.mem_cons_of_mem _ (List.mem_append_right _ h)) hown hK hP 0 rfl rfl 17 (by decide) (hts (.fieldLink RX12 266 "TalePlayModel" "byDoor" "I") (by decide +kernel)) (fun _ h9 => h9) rfl dX12_findExit_206 ?_
              refine lv_iload_n hx hb dX12_findExit_209 rfl (lv_at hl 4 rfl) ?_
              refine ro_calli (va_runV (As := [.int x24, .int r1]) (rest := [.ref o]) ⟨hx, hb, hml, hown, hts⟩ (s_X12_otherSide l D H.size o a t (upd i4 17 x24) q4 c4 d4 x24 r1 hI ) (cwV 2 hts gm_X12_findExit_X12_otherSide rfl rfl rfl (by decide +kernel) ⟨Nat.le_of_ble_eq_true rfl, Nat.le_of_ble_eq_true rfl⟩) (pA_V hK hP (ci := 12) (q0 := 0) rfl rfl) rfl rfl hl.1 rfl (lv_room (Nat.le_of_ble_eq_true rfl)) dX12_findExit_210 ⟨Nat.le_of_ble_eq_true rfl, Nat.le_of_ble_eq_true rfl⟩) hS hA hP (fun r25 u25 H locs hw25 hP hS => ?_)
              have hw25 : r25.toInt = -9 ∨ (0 ≤ r25.toInt ∧ r25.toInt ≤ 29) := hw25
              refine va_put (D := D) (ci := 12) (v := .int r25) (ty := .int) (C := RX12) (T := TX12) (N := 69) hx hb hts (fun _ h => List.mem_cons_of_mem _ (List.mem_append_right _ h)) tyX12 tyX12_ok nmX12 hown hK hP hD hS 0 rfl rfl 16 (by decide) (hts (.fieldLink RX12 263 "TalePlayModel" "leads" "I") (by decide +kernel)) (fun _ h9 => h9) rfl (by decide +kernel) rfl rfl (Nat.le_of_ble_eq_true rfl) dX12_findExit_213 (fun H locs hP hD hS => ?_)
              have hI := mInv_i hI (k := 16) (v := r25) (show (r25 : Int32).toInt = -9 ∨ (0 ≤ (r25 : Int32).toInt ∧ (r25 : Int32).toInt ≤ 29) from by omega)
              have hfi := fr_i hfi (k := 16) (v := r25) (by decide)
              have hP : va_P D vwCl (mW o a t (upd (upd i4 17 x24) 16 r25) q4 c4 d4) H := hP
              have hD : va_D A (mW o a t (upd (upd i4 17 x24) 16 r25) q4 c4 d4) := hD
              refine lv_goto (tgt := 273) hx hb dX12_findExit_216 (by decide) ?_
              refine lv_aload_n hx hb dX12_findExit_273 rfl (lv_at hl 3 rfl) ?_
              refine va_get (D := D) (ci := 12) (v := .int (i4 18)) (C := RX12) (T := TX12) (N := 69) hx hb hts (fun _ h => List.mem_cons_of_mem _ (List.mem_append_right _ h)) hown hK hP 0 rfl rfl 18 (by decide) (hts (.fieldLink RX12 269 "TalePlayModel" "bySentence" "I") (by decide +kernel)) (fun _ h9 => h9) rfl dX12_findExit_274 ?_
              refine lv_bipush (v := (-9)) hx hb dX12_findExit_277 (by decide) ?_
              refine lv_icmp_eq (tgt := 286) hx hb dX12_findExit_279 (by decide) (fun c26 => ?_) (fun c26 => ?_)
              · have f26 := (ti_eq (a := (i4 18).toInt) (b := (-9)) rfl (by decide)).mp c26
                refine lv_iconst (v := 0) hx hb dX12_findExit_286 (by decide) ?_
                exact rw_zret ((upd (upd i4 17 x24) 16 r25), q4, c4, d4) hx hb hr hlocks hS (hK.sub (tys' := []) [] rfl) hP hD rfl dX12_findExit_287 ⟨(show 0 ≤ (0 : Int32).toInt ∧ (0 : Int32).toInt ≤ 1 from by decide), hI, hfi, hfc⟩
              · have f26 := mt (ti_eq (a := (i4 18).toInt) (b := (-9)) rfl (by decide)).mpr c26
                refine lv_iconst (v := 1) hx hb dX12_findExit_282 (by decide) ?_
                refine lv_goto (tgt := 287) hx hb dX12_findExit_283 (by decide) ?_
                exact rw_zret ((upd (upd i4 17 x24) 16 r25), q4, c4, d4) hx hb hr hlocks hS (hK.sub (tys' := []) [] rfl) hP hD rfl dX12_findExit_287 ⟨(show 0 ≤ (1 : Int32).toInt ∧ (1 : Int32).toInt ≤ 1 from by decide), hI, hfi, hfc⟩
        · have f5 := mt (ti_le (a := (i4 8).toInt) (b := y4_5.toInt) rfl rfl).mpr c5
          refine lv_aload_n hx hb dX12_findExit_55 rfl (lv_at hl 3 rfl) ?_
          refine va_get (D := D) (ci := 12) (v := .ref (a 13)) (C := RX12) (T := TX12) (N := 69) hx hb hts (fun _ h => List.mem_cons_of_mem _ (List.mem_append_right _ h)) hown hK hP 0 rfl rfl 13 (by decide) (hts (.fieldLink RX12 37 "TalePlayModel" "isSaid" "[Z") (by decide +kernel)) (fun _ h9 => h9) rfl dX12_findExit_56 ?_
          refine lv_iload hx hb dX12_findExit_59 (lv_at hl 0 rfl) ?_
          refine va_zald hx hb hK hP 10 9 rfl rfl (vp_in_iff.mpr (by have h9 : y4_5.toInt = y4_5.toInt := rfl; omega)) dX12_findExit_61 ?_
          refine lv_topi (fun x27 ex27 => ?_)
          have rx27 : 0 ≤ x27.toInt ∧ x27.toInt ≤ 1 := by rw [ex27]; exact hI.2 13 _
          refine lv_if_eq (tgt := 104) hx hb dX12_findExit_62 (by decide) (fun c28 => ?_) (fun c28 => ?_)
          · have f28 := (ti_eq (a := x27.toInt) (b := 0) rfl (by decide)).mp c28
            refine lv_aload_n hx hb dX12_findExit_104 rfl (lv_at hl 3 rfl) ?_
            refine va_get (D := D) (ci := 12) (v := .ref (a 13)) (C := RX12) (T := TX12) (N := 69) hx hb hts (fun _ h => List.mem_cons_of_mem _ (List.mem_append_right _ h)) hown hK hP 0 rfl rfl 13 (by decide) (hts (.fieldLink RX12 37 "TalePlayModel" "isSaid" "[Z") (by decide +kernel)) (fun _ h9 => h9) rfl dX12_findExit_105 ?_
            refine lv_iload hx hb dX12_findExit_108 (lv_at hl 0 rfl) ?_
            refine va_zald hx hb hK hP 10 9 rfl rfl (vp_in_iff.mpr (by have h9 : y4_5.toInt = y4_5.toInt := rfl; omega)) dX12_findExit_110 ?_
            refine lv_topi (fun x29 ex29 => ?_)
            have rx29 : 0 ≤ x29.toInt ∧ x29.toInt ≤ 1 := by rw [ex29]; exact hI.2 13 _
            refine lv_if_eq (tgt := 158) hx hb dX12_findExit_111 (by decide) (fun c30 => ?_) (fun c30 => ?_)
            · have f30 := (ti_eq (a := x29.toInt) (b := 0) rfl (by decide)).mp c30
              obtain ⟨x31, ex31⟩ : ∃ y : Int32, y = y4_5 + 1 := ⟨_, rfl⟩
              have tx31 := ti_add (a := y4_5.toInt) (b := 1) ex31 rfl (by decide) (by omega) (by omega)
              refine lv_iinc (v := x31) (lv' := [(5, .int x31), (4, .int y4_4), (3, .int x3), (0, .ref o), (1, .int r1), (2, .int d1)]) hx hb dX12_findExit_158 hl (k := 0) rfl (by rw [ex31]; rfl) (by decide) rfl (fun ls hl => ?_)
              refine lv_goto (tgt := 46) hx hb dX12_findExit_161 (by decide) ?_
              exact ih i4 q4 c4 d4 x31 y4_4 hI hfi hfc (by have h85 : x31.toInt = (y4_5.toInt + 1) := tx31; have h83 : x3.toInt = (d1.toInt - 1) := tx3; omega) (by have h85 : x31.toInt = (y4_5.toInt + 1) := tx31; have h83 : x3.toInt = (d1.toInt - 1) := tx3; omega) (by have h85 : x31.toInt = (y4_5.toInt + 1) := tx31; have h83 : x3.toInt = (d1.toInt - 1) := tx3; omega) _ _ _ hP hD hS (lv_sub hl [0, 1, 2, 3, 4, 5] rfl)
            · have f30 := mt (ti_eq (a := x29.toInt) (b := 0) rfl (by decide)).mpr c30
              refine lv_aload_n hx hb dX12_findExit_114 rfl (lv_at hl 3 rfl) ?_
              refine va_get (D := D) (ci := 12) (v := .ref (a 9)) (C := RX12) (T := TX12) (N := 69) hx hb hts (fun _ h => List.mem_cons_of_mem _ (List.mem_append_right _ h)) hown hK hP 0 rfl rfl 9 (by decide) (hts (.fieldLink RX12 25 "TalePlayModel" "form" "[I") (by decide +kernel)) (fun _ h9 => h9) rfl dX12_findExit_115 ?_
              refine lv_iload hx hb dX12_findExit_118 (lv_at hl 0 rfl) ?_
              refine va_iald hx hb hK hP 6 5 rfl rfl (vp_in_iff.mpr (by have h9 : y4_5.toInt = y4_5.toInt := rfl; omega)) dX12_findExit_120 ?_
              refine lv_topi (fun x32 ex32 => ?_)
              have rx32 : 0 ≤ x32.toInt ∧ x32.toInt ≤ 7 := by rw [ex32]; exact hI.2 9 _
              refine lv_iconst (v := 5) hx hb dX12_findExit_121 (by decide) ?_
              refine lv_icmp_ne (tgt := 158) hx hb dX12_findExit_122 (by decide) (fun c33 => ?_) (fun c33 => ?_)
              · have f33 := mt (ti_eq (a := x32.toInt) (b := 5) rfl (by decide)).mpr c33
                obtain ⟨x34, ex34⟩ : ∃ y : Int32, y = y4_5 + 1 := ⟨_, rfl⟩
                have tx34 := ti_add (a := y4_5.toInt) (b := 1) ex34 rfl (by decide) (by omega) (by omega)
                refine lv_iinc (v := x34) (lv' := [(5, .int x34), (4, .int y4_4), (3, .int x3), (0, .ref o), (1, .int r1), (2, .int d1)]) hx hb dX12_findExit_158 hl (k := 0) rfl (by rw [ex34]; rfl) (by decide) rfl (fun ls hl => ?_)
                refine lv_goto (tgt := 46) hx hb dX12_findExit_161 (by decide) ?_
                exact ih i4 q4 c4 d4 x34 y4_4 hI hfi hfc (by have h85 : x34.toInt = (y4_5.toInt + 1) := tx34; have h83 : x3.toInt = (d1.toInt - 1) := tx3; omega) (by have h85 : x34.toInt = (y4_5.toInt + 1) := tx34; have h83 : x3.toInt = (d1.toInt - 1) := tx3; omega) (by have h85 : x34.toInt = (y4_5.toInt + 1) := tx34; have h83 : x3.toInt = (d1.toInt - 1) := tx3; omega) _ _ _ hP hD hS (lv_sub hl [0, 1, 2, 3, 4, 5] rfl)
              · have f33 := (ti_eq (a := x32.toInt) (b := 5) rfl (by decide)).mp c33
                refine lv_aload_n hx hb dX12_findExit_125 rfl (lv_at hl 3 rfl) ?_
                refine va_get (D := D) (ci := 12) (v := .ref (a 11)) (C := RX12) (T := TX12) (N := 69) hx hb hts (fun _ h => List.mem_cons_of_mem _ (List.mem_append_right _ h)) hown hK hP 0 rfl rfl 11 (by decide) (hts (.fieldLink RX12 31 "TalePlayModel" "middle" "[I") (by decide +kernel)) (fun _ h9 => h9) rfl dX12_findExit_126 ?_
                refine lv_iload hx hb dX12_findExit_129 (lv_at hl 0 rfl) ?_
                refine va_iald hx hb hK hP 8 7 rfl rfl (vp_in_iff.mpr (by have h9 : y4_5.toInt = y4_5.toInt := rfl; omega)) dX12_findExit_131 ?_
                refine lv_topi (fun x35 ex35 => ?_)
                have rx35 : 0 ≤ x35.toInt ∧ x35.toInt ≤ 29 := by rw [ex35]; exact hI.2 11 _
                refine lv_iload_n hx hb dX12_findExit_132 rfl (lv_at hl 4 rfl) ?_
                refine lv_icmp_ne (tgt := 158) hx hb dX12_findExit_133 (by decide) (fun c36 => ?_) (fun c36 => ?_)
                · have f36 := mt (ti_eq (a := x35.toInt) (b := r1.toInt) rfl rfl).mpr c36
                  obtain ⟨x37, ex37⟩ : ∃ y : Int32, y = y4_5 + 1 := ⟨_, rfl⟩
                  have tx37 := ti_add (a := y4_5.toInt) (b := 1) ex37 rfl (by decide) (by omega) (by omega)
                  refine lv_iinc (v := x37) (lv' := [(5, .int x37), (4, .int y4_4), (3, .int x3), (0, .ref o), (1, .int r1), (2, .int d1)]) hx hb dX12_findExit_158 hl (k := 0) rfl (by rw [ex37]; rfl) (by decide) rfl (fun ls hl => ?_)
                  refine lv_goto (tgt := 46) hx hb dX12_findExit_161 (by decide) ?_
                  exact ih i4 q4 c4 d4 x37 y4_4 hI hfi hfc (by have h85 : x37.toInt = (y4_5.toInt + 1) := tx37; have h83 : x3.toInt = (d1.toInt - 1) := tx3; omega) (by have h85 : x37.toInt = (y4_5.toInt + 1) := tx37; have h83 : x3.toInt = (d1.toInt - 1) := tx3; omega) (by have h85 : x37.toInt = (y4_5.toInt + 1) := tx37; have h83 : x3.toInt = (d1.toInt - 1) := tx3; omega) _ _ _ hP hD hS (lv_sub hl [0, 1, 2, 3, 4, 5] rfl)
                · have f36 := (ti_eq (a := x35.toInt) (b := r1.toInt) rfl rfl).mp c36
                  refine lv_aload_n hx hb dX12_findExit_136 rfl (lv_at hl 3 rfl) ?_
                  refine va_get (D := D) (ci := 12) (v := .ref (a 12)) (C := RX12) (T := TX12) (N := 69) hx hb hts (fun _ h => List.mem_cons_of_mem _ (List.mem_append_right _ h)) hown hK hP 0 rfl rfl 12 (by decide) (hts (.fieldLink RX12 34 "TalePlayModel" "right" "[I") (by decide +kernel)) (fun _ h9 => h9) rfl dX12_findExit_137 ?_
                  refine lv_iload hx hb dX12_findExit_140 (lv_at hl 0 rfl) ?_
                  refine va_iald hx hb hK hP 9 8 rfl rfl (vp_in_iff.mpr (by have h9 : y4_5.toInt = y4_5.toInt := rfl; omega)) dX12_findExit_142 ?_
                  refine lv_topi (fun x38 ex38 => ?_)
                  have rx38 : 0 ≤ x38.toInt ∧ x38.toInt ≤ 9 := by rw [ex38]; exact hI.2 12 _
                  refine lv_iload_n hx hb dX12_findExit_143 rfl (lv_at hl 2 rfl) ?_
                  refine lv_icmp_ne (tgt := 158) hx hb dX12_findExit_144 (by decide) (fun c39 => ?_) (fun c39 => ?_)
                  · have f39 := mt (ti_eq (a := x38.toInt) (b := (d1.toInt - 1)) rfl tx3).mpr c39
                    obtain ⟨x40, ex40⟩ : ∃ y : Int32, y = y4_5 + 1 := ⟨_, rfl⟩
                    have tx40 := ti_add (a := y4_5.toInt) (b := 1) ex40 rfl (by decide) (by omega) (by omega)
                    refine lv_iinc (v := x40) (lv' := [(5, .int x40), (4, .int y4_4), (3, .int x3), (0, .ref o), (1, .int r1), (2, .int d1)]) hx hb dX12_findExit_158 hl (k := 0) rfl (by rw [ex40]; rfl) (by decide) rfl (fun ls hl => ?_)
                    refine lv_goto (tgt := 46) hx hb dX12_findExit_161 (by decide) ?_
                    exact ih i4 q4 c4 d4 x40 y4_4 hI hfi hfc (by have h85 : x40.toInt = (y4_5.toInt + 1) := tx40; have h83 : x3.toInt = (d1.toInt - 1) := tx3; omega) (by have h85 : x40.toInt = (y4_5.toInt + 1) := tx40; have h83 : x3.toInt = (d1.toInt - 1) := tx3; omega) (by have h85 : x40.toInt = (y4_5.toInt + 1) := tx40; have h83 : x3.toInt = (d1.toInt - 1) := tx3; omega) _ _ _ hP hD hS (lv_sub hl [0, 1, 2, 3, 4, 5] rfl)
                  · have f39 := (ti_eq (a := x38.toInt) (b := (d1.toInt - 1)) rfl tx3).mp c39
                    refine lv_iload hx hb dX12_findExit_147 (lv_at hl 1 rfl) ?_
                    refine lv_bipush (v := (-9)) hx hb dX12_findExit_149 (by decide) ?_
                    refine lv_icmp_ne (tgt := 158) hx hb dX12_findExit_151 (by decide) (fun c41 => ?_) (fun c41 => ?_)
                    · have f41 := mt (ti_eq (a := y4_4.toInt) (b := (-9)) rfl (by decide)).mpr c41
                      obtain ⟨x42, ex42⟩ : ∃ y : Int32, y = y4_5 + 1 := ⟨_, rfl⟩
                      have tx42 := ti_add (a := y4_5.toInt) (b := 1) ex42 rfl (by decide) (by omega) (by omega)
                      refine lv_iinc (v := x42) (lv' := [(5, .int x42), (4, .int y4_4), (3, .int x3), (0, .ref o), (1, .int r1), (2, .int d1)]) hx hb dX12_findExit_158 hl (k := 0) rfl (by rw [ex42]; rfl) (by decide) rfl (fun ls hl => ?_)
                      refine lv_goto (tgt := 46) hx hb dX12_findExit_161 (by decide) ?_
                      exact ih i4 q4 c4 d4 x42 y4_4 hI hfi hfc (by have h85 : x42.toInt = (y4_5.toInt + 1) := tx42; have h83 : x3.toInt = (d1.toInt - 1) := tx3; omega) (by have h85 : x42.toInt = (y4_5.toInt + 1) := tx42; have h83 : x3.toInt = (d1.toInt - 1) := tx3; omega) (by have h85 : x42.toInt = (y4_5.toInt + 1) := tx42; have h83 : x3.toInt = (d1.toInt - 1) := tx3; omega) _ _ _ hP hD hS (lv_sub hl [0, 1, 2, 3, 4, 5] rfl)
                    · have f41 := (ti_eq (a := y4_4.toInt) (b := (-9)) rfl (by decide)).mp c41
                      refine lv_iload hx hb dX12_findExit_154 (lv_at hl 0 rfl) ?_
                      refine lv_istore (lv' := [(4, .int y4_5), (5, .int y4_5), (3, .int x3), (0, .ref o), (1, .int r1), (2, .int d1)]) hx hb dX12_findExit_156 hl (by decide) rfl (fun ls hl => ?_)
                      obtain ⟨x43, ex43⟩ : ∃ y : Int32, y = y4_5 + 1 := ⟨_, rfl⟩
                      have tx43 := ti_add (a := y4_5.toInt) (b := 1) ex43 rfl (by decide) (by omega) (by omega)
                      refine lv_iinc (v := x43) (lv' := [(5, .int x43), (4, .int y4_5), (3, .int x3), (0, .ref o), (1, .int r1), (2, .int d1)]) hx hb dX12_findExit_158 hl (k := 1) rfl (by rw [ex43]; rfl) (by decide) rfl (fun ls hl => ?_)
                      refine lv_goto (tgt := 46) hx hb dX12_findExit_161 (by decide) ?_
                      exact ih i4 q4 c4 d4 x43 y4_5 hI hfi hfc (by have h85 : x43.toInt = (y4_5.toInt + 1) := tx43; have h83 : x3.toInt = (d1.toInt - 1) := tx3; omega) (by have h85 : x43.toInt = (y4_5.toInt + 1) := tx43; have h83 : x3.toInt = (d1.toInt - 1) := tx3; omega) (by have h85 : x43.toInt = (y4_5.toInt + 1) := tx43; have h83 : x3.toInt = (d1.toInt - 1) := tx3; omega) _ _ _ hP hD hS (lv_sub hl [0, 1, 2, 3, 4, 5] rfl)
          · have f28 := mt (ti_eq (a := x27.toInt) (b := 0) rfl (by decide)).mpr c28
            refine lv_aload_n hx hb dX12_findExit_65 rfl (lv_at hl 3 rfl) ?_
            refine va_get (D := D) (ci := 12) (v := .ref (a 9)) (C := RX12) (T := TX12) (N := 69) hx hb hts (fun _ h => List.mem_cons_of_mem _ (List.mem_append_right _ h)) hown hK hP 0 rfl rfl 9 (by decide) (hts (.fieldLink RX12 25 "TalePlayModel" "form" "[I") (by decide +kernel)) (fun _ h9 => h9) rfl dX12_findExit_66 ?_
            refine lv_iload hx hb dX12_findExit_69 (lv_at hl 0 rfl) ?_
            refine va_iald hx hb hK hP 6 5 rfl rfl (vp_in_iff.mpr (by have h9 : y4_5.toInt = y4_5.toInt := rfl; omega)) dX12_findExit_71 ?_
            refine lv_topi (fun x44 ex44 => ?_)
            have rx44 : 0 ≤ x44.toInt ∧ x44.toInt ≤ 7 := by rw [ex44]; exact hI.2 9 _
            refine lv_iconst (v := 5) hx hb dX12_findExit_72 (by decide) ?_
            refine lv_icmp_ne (tgt := 104) hx hb dX12_findExit_73 (by decide) (fun c45 => ?_) (fun c45 => ?_)
            · have f45 := mt (ti_eq (a := x44.toInt) (b := 5) rfl (by decide)).mpr c45
              refine lv_aload_n hx hb dX12_findExit_104 rfl (lv_at hl 3 rfl) ?_
              refine va_get (D := D) (ci := 12) (v := .ref (a 13)) (C := RX12) (T := TX12) (N := 69) hx hb hts (fun _ h => List.mem_cons_of_mem _ (List.mem_append_right _ h)) hown hK hP 0 rfl rfl 13 (by decide) (hts (.fieldLink RX12 37 "TalePlayModel" "isSaid" "[Z") (by decide +kernel)) (fun _ h9 => h9) rfl dX12_findExit_105 ?_
              refine lv_iload hx hb dX12_findExit_108 (lv_at hl 0 rfl) ?_
              refine va_zald hx hb hK hP 10 9 rfl rfl (vp_in_iff.mpr (by have h9 : y4_5.toInt = y4_5.toInt := rfl; omega)) dX12_findExit_110 ?_
              refine lv_topi (fun x46 ex46 => ?_)
              have rx46 : 0 ≤ x46.toInt ∧ x46.toInt ≤ 1 := by rw [ex46]; exact hI.2 13 _
              refine lv_if_eq (tgt := 158) hx hb dX12_findExit_111 (by decide) (fun c47 => ?_) (fun c47 => ?_)
              · have f47 := (ti_eq (a := x46.toInt) (b := 0) rfl (by decide)).mp c47
                obtain ⟨x48, ex48⟩ : ∃ y : Int32, y = y4_5 + 1 := ⟨_, rfl⟩
                have tx48 := ti_add (a := y4_5.toInt) (b := 1) ex48 rfl (by decide) (by omega) (by omega)
                refine lv_iinc (v := x48) (lv' := [(5, .int x48), (4, .int y4_4), (3, .int x3), (0, .ref o), (1, .int r1), (2, .int d1)]) hx hb dX12_findExit_158 hl (k := 0) rfl (by rw [ex48]; rfl) (by decide) rfl (fun ls hl => ?_)
                refine lv_goto (tgt := 46) hx hb dX12_findExit_161 (by decide) ?_
                exact ih i4 q4 c4 d4 x48 y4_4 hI hfi hfc (by have h85 : x48.toInt = (y4_5.toInt + 1) := tx48; have h83 : x3.toInt = (d1.toInt - 1) := tx3; omega) (by have h85 : x48.toInt = (y4_5.toInt + 1) := tx48; have h83 : x3.toInt = (d1.toInt - 1) := tx3; omega) (by have h85 : x48.toInt = (y4_5.toInt + 1) := tx48; have h83 : x3.toInt = (d1.toInt - 1) := tx3; omega) _ _ _ hP hD hS (lv_sub hl [0, 1, 2, 3, 4, 5] rfl)
              · have f47 := mt (ti_eq (a := x46.toInt) (b := 0) rfl (by decide)).mpr c47
                refine lv_aload_n hx hb dX12_findExit_114 rfl (lv_at hl 3 rfl) ?_
                refine va_get (D := D) (ci := 12) (v := .ref (a 9)) (C := RX12) (T := TX12) (N := 69) hx hb hts (fun _ h => List.mem_cons_of_mem _ (List.mem_append_right _ h)) hown hK hP 0 rfl rfl 9 (by decide) (hts (.fieldLink RX12 25 "TalePlayModel" "form" "[I") (by decide +kernel)) (fun _ h9 => h9) rfl dX12_findExit_115 ?_
                refine lv_iload hx hb dX12_findExit_118 (lv_at hl 0 rfl) ?_
                refine va_iald hx hb hK hP 6 5 rfl rfl (vp_in_iff.mpr (by have h9 : y4_5.toInt = y4_5.toInt := rfl; omega)) dX12_findExit_120 ?_
                refine lv_topi (fun x49 ex49 => ?_)
                have rx49 : 0 ≤ x49.toInt ∧ x49.toInt ≤ 7 := by rw [ex49]; exact hI.2 9 _
                refine lv_iconst (v := 5) hx hb dX12_findExit_121 (by decide) ?_
                refine lv_icmp_ne (tgt := 158) hx hb dX12_findExit_122 (by decide) (fun c50 => ?_) (fun c50 => ?_)
                · have f50 := mt (ti_eq (a := x49.toInt) (b := 5) rfl (by decide)).mpr c50
                  obtain ⟨x51, ex51⟩ : ∃ y : Int32, y = y4_5 + 1 := ⟨_, rfl⟩
                  have tx51 := ti_add (a := y4_5.toInt) (b := 1) ex51 rfl (by decide) (by omega) (by omega)
                  refine lv_iinc (v := x51) (lv' := [(5, .int x51), (4, .int y4_4), (3, .int x3), (0, .ref o), (1, .int r1), (2, .int d1)]) hx hb dX12_findExit_158 hl (k := 0) rfl (by rw [ex51]; rfl) (by decide) rfl (fun ls hl => ?_)
                  refine lv_goto (tgt := 46) hx hb dX12_findExit_161 (by decide) ?_
                  exact ih i4 q4 c4 d4 x51 y4_4 hI hfi hfc (by have h85 : x51.toInt = (y4_5.toInt + 1) := tx51; have h83 : x3.toInt = (d1.toInt - 1) := tx3; omega) (by have h85 : x51.toInt = (y4_5.toInt + 1) := tx51; have h83 : x3.toInt = (d1.toInt - 1) := tx3; omega) (by have h85 : x51.toInt = (y4_5.toInt + 1) := tx51; have h83 : x3.toInt = (d1.toInt - 1) := tx3; omega) _ _ _ hP hD hS (lv_sub hl [0, 1, 2, 3, 4, 5] rfl)
                · have f50 := (ti_eq (a := x49.toInt) (b := 5) rfl (by decide)).mp c50
                  refine lv_aload_n hx hb dX12_findExit_125 rfl (lv_at hl 3 rfl) ?_
                  refine va_get (D := D) (ci := 12) (v := .ref (a 11)) (C := RX12) (T := TX12) (N := 69) hx hb hts (fun _ h => List.mem_cons_of_mem _ (List.mem_append_right _ h)) hown hK hP 0 rfl rfl 11 (by decide) (hts (.fieldLink RX12 31 "TalePlayModel" "middle" "[I") (by decide +kernel)) (fun _ h9 => h9) rfl dX12_findExit_126 ?_
                  refine lv_iload hx hb dX12_findExit_129 (lv_at hl 0 rfl) ?_
                  refine va_iald hx hb hK hP 8 7 rfl rfl (vp_in_iff.mpr (by have h9 : y4_5.toInt = y4_5.toInt := rfl; omega)) dX12_findExit_131 ?_
                  refine lv_topi (fun x52 ex52 => ?_)
                  have rx52 : 0 ≤ x52.toInt ∧ x52.toInt ≤ 29 := by rw [ex52]; exact hI.2 11 _
                  refine lv_iload_n hx hb dX12_findExit_132 rfl (lv_at hl 4 rfl) ?_
                  refine lv_icmp_ne (tgt := 158) hx hb dX12_findExit_133 (by decide) (fun c53 => ?_) (fun c53 => ?_)
                  · have f53 := mt (ti_eq (a := x52.toInt) (b := r1.toInt) rfl rfl).mpr c53
                    obtain ⟨x54, ex54⟩ : ∃ y : Int32, y = y4_5 + 1 := ⟨_, rfl⟩
                    have tx54 := ti_add (a := y4_5.toInt) (b := 1) ex54 rfl (by decide) (by omega) (by omega)
                    refine lv_iinc (v := x54) (lv' := [(5, .int x54), (4, .int y4_4), (3, .int x3), (0, .ref o), (1, .int r1), (2, .int d1)]) hx hb dX12_findExit_158 hl (k := 0) rfl (by rw [ex54]; rfl) (by decide) rfl (fun ls hl => ?_)
                    refine lv_goto (tgt := 46) hx hb dX12_findExit_161 (by decide) ?_
                    exact ih i4 q4 c4 d4 x54 y4_4 hI hfi hfc (by have h85 : x54.toInt = (y4_5.toInt + 1) := tx54; have h83 : x3.toInt = (d1.toInt - 1) := tx3; omega) (by have h85 : x54.toInt = (y4_5.toInt + 1) := tx54; have h83 : x3.toInt = (d1.toInt - 1) := tx3; omega) (by have h85 : x54.toInt = (y4_5.toInt + 1) := tx54; have h83 : x3.toInt = (d1.toInt - 1) := tx3; omega) _ _ _ hP hD hS (lv_sub hl [0, 1, 2, 3, 4, 5] rfl)
                  · have f53 := (ti_eq (a := x52.toInt) (b := r1.toInt) rfl rfl).mp c53
                    refine lv_aload_n hx hb dX12_findExit_136 rfl (lv_at hl 3 rfl) ?_
                    refine va_get (D := D) (ci := 12) (v := .ref (a 12)) (C := RX12) (T := TX12) (N := 69) hx hb hts (fun _ h => List.mem_cons_of_mem _ (List.mem_append_right _ h)) hown hK hP 0 rfl rfl 12 (by decide) (hts (.fieldLink RX12 34 "TalePlayModel" "right" "[I") (by decide +kernel)) (fun _ h9 => h9) rfl dX12_findExit_137 ?_
                    refine lv_iload hx hb dX12_findExit_140 (lv_at hl 0 rfl) ?_
                    refine va_iald hx hb hK hP 9 8 rfl rfl (vp_in_iff.mpr (by have h9 : y4_5.toInt = y4_5.toInt := rfl; omega)) dX12_findExit_142 ?_
                    refine lv_topi (fun x55 ex55 => ?_)
                    have rx55 : 0 ≤ x55.toInt ∧ x55.toInt ≤ 9 := by rw [ex55]; exact hI.2 12 _
                    refine lv_iload_n hx hb dX12_findExit_143 rfl (lv_at hl 2 rfl) ?_
                    refine lv_icmp_ne (tgt := 158) hx hb dX12_findExit_144 (by decide) (fun c56 => ?_) (fun c56 => ?_)
                    · have f56 := mt (ti_eq (a := x55.toInt) (b := (d1.toInt - 1)) rfl tx3).mpr c56
                      obtain ⟨x57, ex57⟩ : ∃ y : Int32, y = y4_5 + 1 := ⟨_, rfl⟩
                      have tx57 := ti_add (a := y4_5.toInt) (b := 1) ex57 rfl (by decide) (by omega) (by omega)
                      refine lv_iinc (v := x57) (lv' := [(5, .int x57), (4, .int y4_4), (3, .int x3), (0, .ref o), (1, .int r1), (2, .int d1)]) hx hb dX12_findExit_158 hl (k := 0) rfl (by rw [ex57]; rfl) (by decide) rfl (fun ls hl => ?_)
                      refine lv_goto (tgt := 46) hx hb dX12_findExit_161 (by decide) ?_
                      exact ih i4 q4 c4 d4 x57 y4_4 hI hfi hfc (by have h85 : x57.toInt = (y4_5.toInt + 1) := tx57; have h83 : x3.toInt = (d1.toInt - 1) := tx3; omega) (by have h85 : x57.toInt = (y4_5.toInt + 1) := tx57; have h83 : x3.toInt = (d1.toInt - 1) := tx3; omega) (by have h85 : x57.toInt = (y4_5.toInt + 1) := tx57; have h83 : x3.toInt = (d1.toInt - 1) := tx3; omega) _ _ _ hP hD hS (lv_sub hl [0, 1, 2, 3, 4, 5] rfl)
                    · have f56 := (ti_eq (a := x55.toInt) (b := (d1.toInt - 1)) rfl tx3).mp c56
                      refine lv_iload hx hb dX12_findExit_147 (lv_at hl 1 rfl) ?_
                      refine lv_bipush (v := (-9)) hx hb dX12_findExit_149 (by decide) ?_
                      refine lv_icmp_ne (tgt := 158) hx hb dX12_findExit_151 (by decide) (fun c58 => ?_) (fun c58 => ?_)
                      · have f58 := mt (ti_eq (a := y4_4.toInt) (b := (-9)) rfl (by decide)).mpr c58
                        obtain ⟨x59, ex59⟩ : ∃ y : Int32, y = y4_5 + 1 := ⟨_, rfl⟩
                        have tx59 := ti_add (a := y4_5.toInt) (b := 1) ex59 rfl (by decide) (by omega) (by omega)
                        refine lv_iinc (v := x59) (lv' := [(5, .int x59), (4, .int y4_4), (3, .int x3), (0, .ref o), (1, .int r1), (2, .int d1)]) hx hb dX12_findExit_158 hl (k := 0) rfl (by rw [ex59]; rfl) (by decide) rfl (fun ls hl => ?_)
                        refine lv_goto (tgt := 46) hx hb dX12_findExit_161 (by decide) ?_
                        exact ih i4 q4 c4 d4 x59 y4_4 hI hfi hfc (by have h85 : x59.toInt = (y4_5.toInt + 1) := tx59; have h83 : x3.toInt = (d1.toInt - 1) := tx3; omega) (by have h85 : x59.toInt = (y4_5.toInt + 1) := tx59; have h83 : x3.toInt = (d1.toInt - 1) := tx3; omega) (by have h85 : x59.toInt = (y4_5.toInt + 1) := tx59; have h83 : x3.toInt = (d1.toInt - 1) := tx3; omega) _ _ _ hP hD hS (lv_sub hl [0, 1, 2, 3, 4, 5] rfl)
                      · have f58 := (ti_eq (a := y4_4.toInt) (b := (-9)) rfl (by decide)).mp c58
                        refine lv_iload hx hb dX12_findExit_154 (lv_at hl 0 rfl) ?_
                        refine lv_istore (lv' := [(4, .int y4_5), (5, .int y4_5), (3, .int x3), (0, .ref o), (1, .int r1), (2, .int d1)]) hx hb dX12_findExit_156 hl (by decide) rfl (fun ls hl => ?_)
                        obtain ⟨x60, ex60⟩ : ∃ y : Int32, y = y4_5 + 1 := ⟨_, rfl⟩
                        have tx60 := ti_add (a := y4_5.toInt) (b := 1) ex60 rfl (by decide) (by omega) (by omega)
                        refine lv_iinc (v := x60) (lv' := [(5, .int x60), (4, .int y4_5), (3, .int x3), (0, .ref o), (1, .int r1), (2, .int d1)]) hx hb dX12_findExit_158 hl (k := 1) rfl (by rw [ex60]; rfl) (by decide) rfl (fun ls hl => ?_)
                        refine lv_goto (tgt := 46) hx hb dX12_findExit_161 (by decide) ?_
                        exact ih i4 q4 c4 d4 x60 y4_5 hI hfi hfc (by have h85 : x60.toInt = (y4_5.toInt + 1) := tx60; have h83 : x3.toInt = (d1.toInt - 1) := tx3; omega) (by have h85 : x60.toInt = (y4_5.toInt + 1) := tx60; have h83 : x3.toInt = (d1.toInt - 1) := tx3; omega) (by have h85 : x60.toInt = (y4_5.toInt + 1) := tx60; have h83 : x3.toInt = (d1.toInt - 1) := tx3; omega) _ _ _ hP hD hS (lv_sub hl [0, 1, 2, 3, 4, 5] rfl)
            · have f45 := (ti_eq (a := x44.toInt) (b := 5) rfl (by decide)).mp c45
              refine lv_aload_n hx hb dX12_findExit_76 rfl (lv_at hl 3 rfl) ?_
              refine va_get (D := D) (ci := 12) (v := .ref (a 10)) (C := RX12) (T := TX12) (N := 69) hx hb hts (fun _ h => List.mem_cons_of_mem _ (List.mem_append_right _ h)) hown hK hP 0 rfl rfl 10 (by decide) (hts (.fieldLink RX12 28 "TalePlayModel" "left" "[I") (by decide +kernel)) (fun _ h9 => h9) rfl dX12_findExit_77 ?_
              refine lv_iload hx hb dX12_findExit_80 (lv_at hl 0 rfl) ?_
              refine va_iald hx hb hK hP 7 6 rfl rfl (vp_in_iff.mpr (by have h9 : y4_5.toInt = y4_5.toInt := rfl; omega)) dX12_findExit_82 ?_
              refine lv_topi (fun x61 ex61 => ?_)
              have rx61 : 0 ≤ x61.toInt ∧ x61.toInt ≤ 29 := by rw [ex61]; exact hI.2 10 _
              refine lv_iload_n hx hb dX12_findExit_83 rfl (lv_at hl 4 rfl) ?_
              refine lv_icmp_ne (tgt := 104) hx hb dX12_findExit_84 (by decide) (fun c62 => ?_) (fun c62 => ?_)
              · have f62 := mt (ti_eq (a := x61.toInt) (b := r1.toInt) rfl rfl).mpr c62
                refine lv_aload_n hx hb dX12_findExit_104 rfl (lv_at hl 3 rfl) ?_
                refine va_get (D := D) (ci := 12) (v := .ref (a 13)) (C := RX12) (T := TX12) (N := 69) hx hb hts (fun _ h => List.mem_cons_of_mem _ (List.mem_append_right _ h)) hown hK hP 0 rfl rfl 13 (by decide) (hts (.fieldLink RX12 37 "TalePlayModel" "isSaid" "[Z") (by decide +kernel)) (fun _ h9 => h9) rfl dX12_findExit_105 ?_
                refine lv_iload hx hb dX12_findExit_108 (lv_at hl 0 rfl) ?_
                refine va_zald hx hb hK hP 10 9 rfl rfl (vp_in_iff.mpr (by have h9 : y4_5.toInt = y4_5.toInt := rfl; omega)) dX12_findExit_110 ?_
                refine lv_topi (fun x63 ex63 => ?_)
                have rx63 : 0 ≤ x63.toInt ∧ x63.toInt ≤ 1 := by rw [ex63]; exact hI.2 13 _
                refine lv_if_eq (tgt := 158) hx hb dX12_findExit_111 (by decide) (fun c64 => ?_) (fun c64 => ?_)
                · have f64 := (ti_eq (a := x63.toInt) (b := 0) rfl (by decide)).mp c64
                  obtain ⟨x65, ex65⟩ : ∃ y : Int32, y = y4_5 + 1 := ⟨_, rfl⟩
                  have tx65 := ti_add (a := y4_5.toInt) (b := 1) ex65 rfl (by decide) (by omega) (by omega)
                  refine lv_iinc (v := x65) (lv' := [(5, .int x65), (4, .int y4_4), (3, .int x3), (0, .ref o), (1, .int r1), (2, .int d1)]) hx hb dX12_findExit_158 hl (k := 0) rfl (by rw [ex65]; rfl) (by decide) rfl (fun ls hl => ?_)
                  refine lv_goto (tgt := 46) hx hb dX12_findExit_161 (by decide) ?_
                  exact ih i4 q4 c4 d4 x65 y4_4 hI hfi hfc (by have h85 : x65.toInt = (y4_5.toInt + 1) := tx65; have h83 : x3.toInt = (d1.toInt - 1) := tx3; omega) (by have h85 : x65.toInt = (y4_5.toInt + 1) := tx65; have h83 : x3.toInt = (d1.toInt - 1) := tx3; omega) (by have h85 : x65.toInt = (y4_5.toInt + 1) := tx65; have h83 : x3.toInt = (d1.toInt - 1) := tx3; omega) _ _ _ hP hD hS (lv_sub hl [0, 1, 2, 3, 4, 5] rfl)
                · have f64 := mt (ti_eq (a := x63.toInt) (b := 0) rfl (by decide)).mpr c64
                  refine lv_aload_n hx hb dX12_findExit_114 rfl (lv_at hl 3 rfl) ?_
                  refine va_get (D := D) (ci := 12) (v := .ref (a 9)) (C := RX12) (T := TX12) (N := 69) hx hb hts (fun _ h => List.mem_cons_of_mem _ (List.mem_append_right _ h)) hown hK hP 0 rfl rfl 9 (by decide) (hts (.fieldLink RX12 25 "TalePlayModel" "form" "[I") (by decide +kernel)) (fun _ h9 => h9) rfl dX12_findExit_115 ?_
                  refine lv_iload hx hb dX12_findExit_118 (lv_at hl 0 rfl) ?_
                  refine va_iald hx hb hK hP 6 5 rfl rfl (vp_in_iff.mpr (by have h9 : y4_5.toInt = y4_5.toInt := rfl; omega)) dX12_findExit_120 ?_
                  refine lv_topi (fun x66 ex66 => ?_)
                  have rx66 : 0 ≤ x66.toInt ∧ x66.toInt ≤ 7 := by rw [ex66]; exact hI.2 9 _
                  refine lv_iconst (v := 5) hx hb dX12_findExit_121 (by decide) ?_
                  refine lv_icmp_ne (tgt := 158) hx hb dX12_findExit_122 (by decide) (fun c67 => ?_) (fun c67 => ?_)
                  · have f67 := mt (ti_eq (a := x66.toInt) (b := 5) rfl (by decide)).mpr c67
                    obtain ⟨x68, ex68⟩ : ∃ y : Int32, y = y4_5 + 1 := ⟨_, rfl⟩
                    have tx68 := ti_add (a := y4_5.toInt) (b := 1) ex68 rfl (by decide) (by omega) (by omega)
                    refine lv_iinc (v := x68) (lv' := [(5, .int x68), (4, .int y4_4), (3, .int x3), (0, .ref o), (1, .int r1), (2, .int d1)]) hx hb dX12_findExit_158 hl (k := 0) rfl (by rw [ex68]; rfl) (by decide) rfl (fun ls hl => ?_)
                    refine lv_goto (tgt := 46) hx hb dX12_findExit_161 (by decide) ?_
                    exact ih i4 q4 c4 d4 x68 y4_4 hI hfi hfc (by have h85 : x68.toInt = (y4_5.toInt + 1) := tx68; have h83 : x3.toInt = (d1.toInt - 1) := tx3; omega) (by have h85 : x68.toInt = (y4_5.toInt + 1) := tx68; have h83 : x3.toInt = (d1.toInt - 1) := tx3; omega) (by have h85 : x68.toInt = (y4_5.toInt + 1) := tx68; have h83 : x3.toInt = (d1.toInt - 1) := tx3; omega) _ _ _ hP hD hS (lv_sub hl [0, 1, 2, 3, 4, 5] rfl)
                  · have f67 := (ti_eq (a := x66.toInt) (b := 5) rfl (by decide)).mp c67
                    refine lv_aload_n hx hb dX12_findExit_125 rfl (lv_at hl 3 rfl) ?_
                    refine va_get (D := D) (ci := 12) (v := .ref (a 11)) (C := RX12) (T := TX12) (N := 69) hx hb hts (fun _ h => List.mem_cons_of_mem _ (List.mem_append_right _ h)) hown hK hP 0 rfl rfl 11 (by decide) (hts (.fieldLink RX12 31 "TalePlayModel" "middle" "[I") (by decide +kernel)) (fun _ h9 => h9) rfl dX12_findExit_126 ?_
                    refine lv_iload hx hb dX12_findExit_129 (lv_at hl 0 rfl) ?_
                    refine va_iald hx hb hK hP 8 7 rfl rfl (vp_in_iff.mpr (by have h9 : y4_5.toInt = y4_5.toInt := rfl; omega)) dX12_findExit_131 ?_
                    refine lv_topi (fun x69 ex69 => ?_)
                    have rx69 : 0 ≤ x69.toInt ∧ x69.toInt ≤ 29 := by rw [ex69]; exact hI.2 11 _
                    refine lv_iload_n hx hb dX12_findExit_132 rfl (lv_at hl 4 rfl) ?_
                    refine lv_icmp_ne (tgt := 158) hx hb dX12_findExit_133 (by decide) (fun c70 => ?_) (fun c70 => ?_)
                    · have f70 := mt (ti_eq (a := x69.toInt) (b := r1.toInt) rfl rfl).mpr c70
                      obtain ⟨x71, ex71⟩ : ∃ y : Int32, y = y4_5 + 1 := ⟨_, rfl⟩
                      have tx71 := ti_add (a := y4_5.toInt) (b := 1) ex71 rfl (by decide) (by omega) (by omega)
                      refine lv_iinc (v := x71) (lv' := [(5, .int x71), (4, .int y4_4), (3, .int x3), (0, .ref o), (1, .int r1), (2, .int d1)]) hx hb dX12_findExit_158 hl (k := 0) rfl (by rw [ex71]; rfl) (by decide) rfl (fun ls hl => ?_)
                      refine lv_goto (tgt := 46) hx hb dX12_findExit_161 (by decide) ?_
                      exact ih i4 q4 c4 d4 x71 y4_4 hI hfi hfc (by have h85 : x71.toInt = (y4_5.toInt + 1) := tx71; have h83 : x3.toInt = (d1.toInt - 1) := tx3; omega) (by have h85 : x71.toInt = (y4_5.toInt + 1) := tx71; have h83 : x3.toInt = (d1.toInt - 1) := tx3; omega) (by have h85 : x71.toInt = (y4_5.toInt + 1) := tx71; have h83 : x3.toInt = (d1.toInt - 1) := tx3; omega) _ _ _ hP hD hS (lv_sub hl [0, 1, 2, 3, 4, 5] rfl)
                    · have f70 := (ti_eq (a := x69.toInt) (b := r1.toInt) rfl rfl).mp c70
                      refine lv_aload_n hx hb dX12_findExit_136 rfl (lv_at hl 3 rfl) ?_
                      refine va_get (D := D) (ci := 12) (v := .ref (a 12)) (C := RX12) (T := TX12) (N := 69) hx hb hts (fun _ h => List.mem_cons_of_mem _ (List.mem_append_right _ h)) hown hK hP 0 rfl rfl 12 (by decide) (hts (.fieldLink RX12 34 "TalePlayModel" "right" "[I") (by decide +kernel)) (fun _ h9 => h9) rfl dX12_findExit_137 ?_
                      refine lv_iload hx hb dX12_findExit_140 (lv_at hl 0 rfl) ?_
                      refine va_iald hx hb hK hP 9 8 rfl rfl (vp_in_iff.mpr (by have h9 : y4_5.toInt = y4_5.toInt := rfl; omega)) dX12_findExit_142 ?_
                      refine lv_topi (fun x72 ex72 => ?_)
                      have rx72 : 0 ≤ x72.toInt ∧ x72.toInt ≤ 9 := by rw [ex72]; exact hI.2 12 _
                      refine lv_iload_n hx hb dX12_findExit_143 rfl (lv_at hl 2 rfl) ?_
                      refine lv_icmp_ne (tgt := 158) hx hb dX12_findExit_144 (by decide) (fun c73 => ?_) (fun c73 => ?_)
                      · have f73 := mt (ti_eq (a := x72.toInt) (b := (d1.toInt - 1)) rfl tx3).mpr c73
                        obtain ⟨x74, ex74⟩ : ∃ y : Int32, y = y4_5 + 1 := ⟨_, rfl⟩
                        have tx74 := ti_add (a := y4_5.toInt) (b := 1) ex74 rfl (by decide) (by omega) (by omega)
                        refine lv_iinc (v := x74) (lv' := [(5, .int x74), (4, .int y4_4), (3, .int x3), (0, .ref o), (1, .int r1), (2, .int d1)]) hx hb dX12_findExit_158 hl (k := 0) rfl (by rw [ex74]; rfl) (by decide) rfl (fun ls hl => ?_)
                        refine lv_goto (tgt := 46) hx hb dX12_findExit_161 (by decide) ?_
                        exact ih i4 q4 c4 d4 x74 y4_4 hI hfi hfc (by have h85 : x74.toInt = (y4_5.toInt + 1) := tx74; have h83 : x3.toInt = (d1.toInt - 1) := tx3; omega) (by have h85 : x74.toInt = (y4_5.toInt + 1) := tx74; have h83 : x3.toInt = (d1.toInt - 1) := tx3; omega) (by have h85 : x74.toInt = (y4_5.toInt + 1) := tx74; have h83 : x3.toInt = (d1.toInt - 1) := tx3; omega) _ _ _ hP hD hS (lv_sub hl [0, 1, 2, 3, 4, 5] rfl)
                      · have f73 := (ti_eq (a := x72.toInt) (b := (d1.toInt - 1)) rfl tx3).mp c73
                        refine lv_iload hx hb dX12_findExit_147 (lv_at hl 1 rfl) ?_
                        refine lv_bipush (v := (-9)) hx hb dX12_findExit_149 (by decide) ?_
                        refine lv_icmp_ne (tgt := 158) hx hb dX12_findExit_151 (by decide) (fun c75 => ?_) (fun c75 => ?_)
                        · have f75 := mt (ti_eq (a := y4_4.toInt) (b := (-9)) rfl (by decide)).mpr c75
                          obtain ⟨x76, ex76⟩ : ∃ y : Int32, y = y4_5 + 1 := ⟨_, rfl⟩
                          have tx76 := ti_add (a := y4_5.toInt) (b := 1) ex76 rfl (by decide) (by omega) (by omega)
                          refine lv_iinc (v := x76) (lv' := [(5, .int x76), (4, .int y4_4), (3, .int x3), (0, .ref o), (1, .int r1), (2, .int d1)]) hx hb dX12_findExit_158 hl (k := 0) rfl (by rw [ex76]; rfl) (by decide) rfl (fun ls hl => ?_)
                          refine lv_goto (tgt := 46) hx hb dX12_findExit_161 (by decide) ?_
                          exact ih i4 q4 c4 d4 x76 y4_4 hI hfi hfc (by have h85 : x76.toInt = (y4_5.toInt + 1) := tx76; have h83 : x3.toInt = (d1.toInt - 1) := tx3; omega) (by have h85 : x76.toInt = (y4_5.toInt + 1) := tx76; have h83 : x3.toInt = (d1.toInt - 1) := tx3; omega) (by have h85 : x76.toInt = (y4_5.toInt + 1) := tx76; have h83 : x3.toInt = (d1.toInt - 1) := tx3; omega) _ _ _ hP hD hS (lv_sub hl [0, 1, 2, 3, 4, 5] rfl)
                        · have f75 := (ti_eq (a := y4_4.toInt) (b := (-9)) rfl (by decide)).mp c75
                          refine lv_iload hx hb dX12_findExit_154 (lv_at hl 0 rfl) ?_
                          refine lv_istore (lv' := [(4, .int y4_5), (5, .int y4_5), (3, .int x3), (0, .ref o), (1, .int r1), (2, .int d1)]) hx hb dX12_findExit_156 hl (by decide) rfl (fun ls hl => ?_)
                          obtain ⟨x77, ex77⟩ : ∃ y : Int32, y = y4_5 + 1 := ⟨_, rfl⟩
                          have tx77 := ti_add (a := y4_5.toInt) (b := 1) ex77 rfl (by decide) (by omega) (by omega)
                          refine lv_iinc (v := x77) (lv' := [(5, .int x77), (4, .int y4_5), (3, .int x3), (0, .ref o), (1, .int r1), (2, .int d1)]) hx hb dX12_findExit_158 hl (k := 1) rfl (by rw [ex77]; rfl) (by decide) rfl (fun ls hl => ?_)
                          refine lv_goto (tgt := 46) hx hb dX12_findExit_161 (by decide) ?_
                          exact ih i4 q4 c4 d4 x77 y4_5 hI hfi hfc (by have h85 : x77.toInt = (y4_5.toInt + 1) := tx77; have h83 : x3.toInt = (d1.toInt - 1) := tx3; omega) (by have h85 : x77.toInt = (y4_5.toInt + 1) := tx77; have h83 : x3.toInt = (d1.toInt - 1) := tx3; omega) (by have h85 : x77.toInt = (y4_5.toInt + 1) := tx77; have h83 : x3.toInt = (d1.toInt - 1) := tx3; omega) _ _ _ hP hD hS (lv_sub hl [0, 1, 2, 3, 4, 5] rfl)
              · have f62 := (ti_eq (a := x61.toInt) (b := r1.toInt) rfl rfl).mp c62
                refine lv_aload_n hx hb dX12_findExit_87 rfl (lv_at hl 3 rfl) ?_
                refine va_get (D := D) (ci := 12) (v := .ref (a 12)) (C := RX12) (T := TX12) (N := 69) hx hb hts (fun _ h => List.mem_cons_of_mem _ (List.mem_append_right _ h)) hown hK hP 0 rfl rfl 12 (by decide) (hts (.fieldLink RX12 34 "TalePlayModel" "right" "[I") (by decide +kernel)) (fun _ h9 => h9) rfl dX12_findExit_88 ?_
                refine lv_iload hx hb dX12_findExit_91 (lv_at hl 0 rfl) ?_
                refine va_iald hx hb hK hP 9 8 rfl rfl (vp_in_iff.mpr (by have h9 : y4_5.toInt = y4_5.toInt := rfl; omega)) dX12_findExit_93 ?_
                refine lv_topi (fun x78 ex78 => ?_)
                have rx78 : 0 ≤ x78.toInt ∧ x78.toInt ≤ 9 := by rw [ex78]; exact hI.2 12 _
                refine lv_iload_n hx hb dX12_findExit_94 rfl (lv_at hl 5 rfl) ?_
                refine lv_icmp_ne (tgt := 104) hx hb dX12_findExit_95 (by decide) (fun c79 => ?_) (fun c79 => ?_)
                · have f79 := mt (ti_eq (a := x78.toInt) (b := d1.toInt) rfl rfl).mpr c79
                  refine lv_aload_n hx hb dX12_findExit_104 rfl (lv_at hl 3 rfl) ?_
                  refine va_get (D := D) (ci := 12) (v := .ref (a 13)) (C := RX12) (T := TX12) (N := 69) hx hb hts (fun _ h => List.mem_cons_of_mem _ (List.mem_append_right _ h)) hown hK hP 0 rfl rfl 13 (by decide) (hts (.fieldLink RX12 37 "TalePlayModel" "isSaid" "[Z") (by decide +kernel)) (fun _ h9 => h9) rfl dX12_findExit_105 ?_
                  refine lv_iload hx hb dX12_findExit_108 (lv_at hl 0 rfl) ?_
                  refine va_zald hx hb hK hP 10 9 rfl rfl (vp_in_iff.mpr (by have h9 : y4_5.toInt = y4_5.toInt := rfl; omega)) dX12_findExit_110 ?_
                  refine lv_topi (fun x80 ex80 => ?_)
                  have rx80 : 0 ≤ x80.toInt ∧ x80.toInt ≤ 1 := by rw [ex80]; exact hI.2 13 _
                  refine lv_if_eq (tgt := 158) hx hb dX12_findExit_111 (by decide) (fun c81 => ?_) (fun c81 => ?_)
                  · have f81 := (ti_eq (a := x80.toInt) (b := 0) rfl (by decide)).mp c81
                    obtain ⟨x82, ex82⟩ : ∃ y : Int32, y = y4_5 + 1 := ⟨_, rfl⟩
                    have tx82 := ti_add (a := y4_5.toInt) (b := 1) ex82 rfl (by decide) (by omega) (by omega)
                    refine lv_iinc (v := x82) (lv' := [(5, .int x82), (4, .int y4_4), (3, .int x3), (0, .ref o), (1, .int r1), (2, .int d1)]) hx hb dX12_findExit_158 hl (k := 0) rfl (by rw [ex82]; rfl) (by decide) rfl (fun ls hl => ?_)
                    refine lv_goto (tgt := 46) hx hb dX12_findExit_161 (by decide) ?_
                    exact ih i4 q4 c4 d4 x82 y4_4 hI hfi hfc (by have h85 : x82.toInt = (y4_5.toInt + 1) := tx82; have h83 : x3.toInt = (d1.toInt - 1) := tx3; omega) (by have h85 : x82.toInt = (y4_5.toInt + 1) := tx82; have h83 : x3.toInt = (d1.toInt - 1) := tx3; omega) (by have h85 : x82.toInt = (y4_5.toInt + 1) := tx82; have h83 : x3.toInt = (d1.toInt - 1) := tx3; omega) _ _ _ hP hD hS (lv_sub hl [0, 1, 2, 3, 4, 5] rfl)
                  · have f81 := mt (ti_eq (a := x80.toInt) (b := 0) rfl (by decide)).mpr c81
                    refine lv_aload_n hx hb dX12_findExit_114 rfl (lv_at hl 3 rfl) ?_
                    refine va_get (D := D) (ci := 12) (v := .ref (a 9)) (C := RX12) (T := TX12) (N := 69) hx hb hts (fun _ h => List.mem_cons_of_mem _ (List.mem_append_right _ h)) hown hK hP 0 rfl rfl 9 (by decide) (hts (.fieldLink RX12 25 "TalePlayModel" "form" "[I") (by decide +kernel)) (fun _ h9 => h9) rfl dX12_findExit_115 ?_
                    refine lv_iload hx hb dX12_findExit_118 (lv_at hl 0 rfl) ?_
                    refine va_iald hx hb hK hP 6 5 rfl rfl (vp_in_iff.mpr (by have h9 : y4_5.toInt = y4_5.toInt := rfl; omega)) dX12_findExit_120 ?_
                    refine lv_topi (fun x83 ex83 => ?_)
                    have rx83 : 0 ≤ x83.toInt ∧ x83.toInt ≤ 7 := by rw [ex83]; exact hI.2 9 _
                    refine lv_iconst (v := 5) hx hb dX12_findExit_121 (by decide) ?_
                    refine lv_icmp_ne (tgt := 158) hx hb dX12_findExit_122 (by decide) (fun c84 => ?_) (fun c84 => ?_)
                    · have f84 := mt (ti_eq (a := x83.toInt) (b := 5) rfl (by decide)).mpr c84
                      obtain ⟨x85, ex85⟩ : ∃ y : Int32, y = y4_5 + 1 := ⟨_, rfl⟩
                      have tx85 := ti_add (a := y4_5.toInt) (b := 1) ex85 rfl (by decide) (by omega) (by omega)
                      refine lv_iinc (v := x85) (lv' := [(5, .int x85), (4, .int y4_4), (3, .int x3), (0, .ref o), (1, .int r1), (2, .int d1)]) hx hb dX12_findExit_158 hl (k := 0) rfl (by rw [ex85]; rfl) (by decide) rfl (fun ls hl => ?_)
                      refine lv_goto (tgt := 46) hx hb dX12_findExit_161 (by decide) ?_
                      exact ih i4 q4 c4 d4 x85 y4_4 hI hfi hfc (by have h85 : x85.toInt = (y4_5.toInt + 1) := tx85; have h83 : x3.toInt = (d1.toInt - 1) := tx3; omega) (by have h85 : x85.toInt = (y4_5.toInt + 1) := tx85; have h83 : x3.toInt = (d1.toInt - 1) := tx3; omega) (by have h85 : x85.toInt = (y4_5.toInt + 1) := tx85; have h83 : x3.toInt = (d1.toInt - 1) := tx3; omega) _ _ _ hP hD hS (lv_sub hl [0, 1, 2, 3, 4, 5] rfl)
                    · have f84 := (ti_eq (a := x83.toInt) (b := 5) rfl (by decide)).mp c84
                      refine lv_aload_n hx hb dX12_findExit_125 rfl (lv_at hl 3 rfl) ?_
                      refine va_get (D := D) (ci := 12) (v := .ref (a 11)) (C := RX12) (T := TX12) (N := 69) hx hb hts (fun _ h => List.mem_cons_of_mem _ (List.mem_append_right _ h)) hown hK hP 0 rfl rfl 11 (by decide) (hts (.fieldLink RX12 31 "TalePlayModel" "middle" "[I") (by decide +kernel)) (fun _ h9 => h9) rfl dX12_findExit_126 ?_
                      refine lv_iload hx hb dX12_findExit_129 (lv_at hl 0 rfl) ?_
                      refine va_iald hx hb hK hP 8 7 rfl rfl (vp_in_iff.mpr (by have h9 : y4_5.toInt = y4_5.toInt := rfl; omega)) dX12_findExit_131 ?_
                      refine lv_topi (fun x86 ex86 => ?_)
                      have rx86 : 0 ≤ x86.toInt ∧ x86.toInt ≤ 29 := by rw [ex86]; exact hI.2 11 _
                      refine lv_iload_n hx hb dX12_findExit_132 rfl (lv_at hl 4 rfl) ?_
                      refine lv_icmp_ne (tgt := 158) hx hb dX12_findExit_133 (by decide) (fun c87 => ?_) (fun c87 => ?_)
                      · have f87 := mt (ti_eq (a := x86.toInt) (b := r1.toInt) rfl rfl).mpr c87
                        obtain ⟨x88, ex88⟩ : ∃ y : Int32, y = y4_5 + 1 := ⟨_, rfl⟩
                        have tx88 := ti_add (a := y4_5.toInt) (b := 1) ex88 rfl (by decide) (by omega) (by omega)
                        refine lv_iinc (v := x88) (lv' := [(5, .int x88), (4, .int y4_4), (3, .int x3), (0, .ref o), (1, .int r1), (2, .int d1)]) hx hb dX12_findExit_158 hl (k := 0) rfl (by rw [ex88]; rfl) (by decide) rfl (fun ls hl => ?_)
                        refine lv_goto (tgt := 46) hx hb dX12_findExit_161 (by decide) ?_
                        exact ih i4 q4 c4 d4 x88 y4_4 hI hfi hfc (by have h85 : x88.toInt = (y4_5.toInt + 1) := tx88; have h83 : x3.toInt = (d1.toInt - 1) := tx3; omega) (by have h85 : x88.toInt = (y4_5.toInt + 1) := tx88; have h83 : x3.toInt = (d1.toInt - 1) := tx3; omega) (by have h85 : x88.toInt = (y4_5.toInt + 1) := tx88; have h83 : x3.toInt = (d1.toInt - 1) := tx3; omega) _ _ _ hP hD hS (lv_sub hl [0, 1, 2, 3, 4, 5] rfl)
                      · have f87 := (ti_eq (a := x86.toInt) (b := r1.toInt) rfl rfl).mp c87
                        refine lv_aload_n hx hb dX12_findExit_136 rfl (lv_at hl 3 rfl) ?_
                        refine va_get (D := D) (ci := 12) (v := .ref (a 12)) (C := RX12) (T := TX12) (N := 69) hx hb hts (fun _ h => List.mem_cons_of_mem _ (List.mem_append_right _ h)) hown hK hP 0 rfl rfl 12 (by decide) (hts (.fieldLink RX12 34 "TalePlayModel" "right" "[I") (by decide +kernel)) (fun _ h9 => h9) rfl dX12_findExit_137 ?_
                        refine lv_iload hx hb dX12_findExit_140 (lv_at hl 0 rfl) ?_
                        refine va_iald hx hb hK hP 9 8 rfl rfl (vp_in_iff.mpr (by have h9 : y4_5.toInt = y4_5.toInt := rfl; omega)) dX12_findExit_142 ?_
                        refine lv_topi (fun x89 ex89 => ?_)
                        have rx89 : 0 ≤ x89.toInt ∧ x89.toInt ≤ 9 := by rw [ex89]; exact hI.2 12 _
                        refine lv_iload_n hx hb dX12_findExit_143 rfl (lv_at hl 2 rfl) ?_
                        refine lv_icmp_ne (tgt := 158) hx hb dX12_findExit_144 (by decide) (fun c90 => ?_) (fun c90 => ?_)
                        · have f90 := mt (ti_eq (a := x89.toInt) (b := (d1.toInt - 1)) rfl tx3).mpr c90
                          obtain ⟨x91, ex91⟩ : ∃ y : Int32, y = y4_5 + 1 := ⟨_, rfl⟩
                          have tx91 := ti_add (a := y4_5.toInt) (b := 1) ex91 rfl (by decide) (by omega) (by omega)
                          refine lv_iinc (v := x91) (lv' := [(5, .int x91), (4, .int y4_4), (3, .int x3), (0, .ref o), (1, .int r1), (2, .int d1)]) hx hb dX12_findExit_158 hl (k := 0) rfl (by rw [ex91]; rfl) (by decide) rfl (fun ls hl => ?_)
                          refine lv_goto (tgt := 46) hx hb dX12_findExit_161 (by decide) ?_
                          exact ih i4 q4 c4 d4 x91 y4_4 hI hfi hfc (by have h85 : x91.toInt = (y4_5.toInt + 1) := tx91; have h83 : x3.toInt = (d1.toInt - 1) := tx3; omega) (by have h85 : x91.toInt = (y4_5.toInt + 1) := tx91; have h83 : x3.toInt = (d1.toInt - 1) := tx3; omega) (by have h85 : x91.toInt = (y4_5.toInt + 1) := tx91; have h83 : x3.toInt = (d1.toInt - 1) := tx3; omega) _ _ _ hP hD hS (lv_sub hl [0, 1, 2, 3, 4, 5] rfl)
                        · have f90 := (ti_eq (a := x89.toInt) (b := (d1.toInt - 1)) rfl tx3).mp c90
                          refine lv_iload hx hb dX12_findExit_147 (lv_at hl 1 rfl) ?_
                          refine lv_bipush (v := (-9)) hx hb dX12_findExit_149 (by decide) ?_
                          refine lv_icmp_ne (tgt := 158) hx hb dX12_findExit_151 (by decide) (fun c92 => ?_) (fun c92 => ?_)
                          · have f92 := mt (ti_eq (a := y4_4.toInt) (b := (-9)) rfl (by decide)).mpr c92
                            obtain ⟨x93, ex93⟩ : ∃ y : Int32, y = y4_5 + 1 := ⟨_, rfl⟩
                            have tx93 := ti_add (a := y4_5.toInt) (b := 1) ex93 rfl (by decide) (by omega) (by omega)
                            refine lv_iinc (v := x93) (lv' := [(5, .int x93), (4, .int y4_4), (3, .int x3), (0, .ref o), (1, .int r1), (2, .int d1)]) hx hb dX12_findExit_158 hl (k := 0) rfl (by rw [ex93]; rfl) (by decide) rfl (fun ls hl => ?_)
                            refine lv_goto (tgt := 46) hx hb dX12_findExit_161 (by decide) ?_
                            exact ih i4 q4 c4 d4 x93 y4_4 hI hfi hfc (by have h85 : x93.toInt = (y4_5.toInt + 1) := tx93; have h83 : x3.toInt = (d1.toInt - 1) := tx3; omega) (by have h85 : x93.toInt = (y4_5.toInt + 1) := tx93; have h83 : x3.toInt = (d1.toInt - 1) := tx3; omega) (by have h85 : x93.toInt = (y4_5.toInt + 1) := tx93; have h83 : x3.toInt = (d1.toInt - 1) := tx3; omega) _ _ _ hP hD hS (lv_sub hl [0, 1, 2, 3, 4, 5] rfl)
                          · have f92 := (ti_eq (a := y4_4.toInt) (b := (-9)) rfl (by decide)).mp c92
                            refine lv_iload hx hb dX12_findExit_154 (lv_at hl 0 rfl) ?_
                            refine lv_istore (lv' := [(4, .int y4_5), (5, .int y4_5), (3, .int x3), (0, .ref o), (1, .int r1), (2, .int d1)]) hx hb dX12_findExit_156 hl (by decide) rfl (fun ls hl => ?_)
                            obtain ⟨x94, ex94⟩ : ∃ y : Int32, y = y4_5 + 1 := ⟨_, rfl⟩
                            have tx94 := ti_add (a := y4_5.toInt) (b := 1) ex94 rfl (by decide) (by omega) (by omega)
                            refine lv_iinc (v := x94) (lv' := [(5, .int x94), (4, .int y4_5), (3, .int x3), (0, .ref o), (1, .int r1), (2, .int d1)]) hx hb dX12_findExit_158 hl (k := 1) rfl (by rw [ex94]; rfl) (by decide) rfl (fun ls hl => ?_)
                            refine lv_goto (tgt := 46) hx hb dX12_findExit_161 (by decide) ?_
                            exact ih i4 q4 c4 d4 x94 y4_5 hI hfi hfc (by have h85 : x94.toInt = (y4_5.toInt + 1) := tx94; have h83 : x3.toInt = (d1.toInt - 1) := tx3; omega) (by have h85 : x94.toInt = (y4_5.toInt + 1) := tx94; have h83 : x3.toInt = (d1.toInt - 1) := tx3; omega) (by have h85 : x94.toInt = (y4_5.toInt + 1) := tx94; have h83 : x3.toInt = (d1.toInt - 1) := tx3; omega) _ _ _ hP hD hS (lv_sub hl [0, 1, 2, 3, 4, 5] rfl)
                · have f79 := (ti_eq (a := x78.toInt) (b := d1.toInt) rfl rfl).mp c79
                  refine lv_aload_n hx hb dX12_findExit_98 rfl (lv_at hl 3 rfl) ?_
                  refine lv_iload hx hb dX12_findExit_99 (lv_at hl 0 rfl) ?_
                  refine va_put (D := D) (ci := 12) (v := .int y4_5) (ty := .int) (C := RX12) (T := TX12) (N := 69) hx hb hts (fun _ h => List.mem_cons_of_mem _ (List.mem_append_right _ h)) tyX12 tyX12_ok nmX12 hown hK hP hD hS 0 rfl rfl 18 (by decide) (hts (.fieldLink RX12 269 "TalePlayModel" "bySentence" "I") (by decide +kernel)) (fun _ h9 => h9) rfl (by decide +kernel) rfl rfl (Nat.le_of_ble_eq_true rfl) dX12_findExit_101 (fun H locs hP hD hS => ?_)
                  have hI := mInv_i hI (k := 18) (v := y4_5) (show (y4_5 : Int32).toInt = -9 ∨ (0 ≤ (y4_5 : Int32).toInt ∧ (y4_5 : Int32).toInt ≤ 199) from by omega)
                  have hfi := fr_i hfi (k := 18) (v := y4_5) (by decide)
                  have hP : va_P D vwCl (mW o a t (upd i4 18 y4_5) q4 c4 d4) H := hP
                  have hD : va_D A (mW o a t (upd i4 18 y4_5) q4 c4 d4) := hD
                  refine lv_aload_n hx hb dX12_findExit_104 rfl (lv_at hl 3 rfl) ?_
                  refine va_get (D := D) (ci := 12) (v := .ref (a 13)) (C := RX12) (T := TX12) (N := 69) hx hb hts (fun _ h => List.mem_cons_of_mem _ (List.mem_append_right _ h)) hown hK hP 0 rfl rfl 13 (by decide) (hts (.fieldLink RX12 37 "TalePlayModel" "isSaid" "[Z") (by decide +kernel)) (fun _ h9 => h9) rfl dX12_findExit_105 ?_
                  refine lv_iload hx hb dX12_findExit_108 (lv_at hl 0 rfl) ?_
                  refine va_zald hx hb hK hP 10 9 rfl rfl (vp_in_iff.mpr (by have h9 : y4_5.toInt = y4_5.toInt := rfl; omega)) dX12_findExit_110 ?_
                  refine lv_topi (fun x95 ex95 => ?_)
                  have rx95 : 0 ≤ x95.toInt ∧ x95.toInt ≤ 1 := by rw [ex95]; exact hI.2 13 _
                  refine lv_if_eq (tgt := 158) hx hb dX12_findExit_111 (by decide) (fun c96 => ?_) (fun c96 => ?_)
                  · have f96 := (ti_eq (a := x95.toInt) (b := 0) rfl (by decide)).mp c96
                    obtain ⟨x97, ex97⟩ : ∃ y : Int32, y = y4_5 + 1 := ⟨_, rfl⟩
                    have tx97 := ti_add (a := y4_5.toInt) (b := 1) ex97 rfl (by decide) (by omega) (by omega)
                    refine lv_iinc (v := x97) (lv' := [(5, .int x97), (4, .int y4_4), (3, .int x3), (0, .ref o), (1, .int r1), (2, .int d1)]) hx hb dX12_findExit_158 hl (k := 0) rfl (by rw [ex97]; rfl) (by decide) rfl (fun ls hl => ?_)
                    refine lv_goto (tgt := 46) hx hb dX12_findExit_161 (by decide) ?_
                    exact ih (upd i4 18 y4_5) q4 c4 d4 x97 y4_4 hI hfi hfc (by have h85 : x97.toInt = (y4_5.toInt + 1) := tx97; have h83 : x3.toInt = (d1.toInt - 1) := tx3; omega) (by have h85 : x97.toInt = (y4_5.toInt + 1) := tx97; have h83 : x3.toInt = (d1.toInt - 1) := tx3; omega) (by have h85 : x97.toInt = (y4_5.toInt + 1) := tx97; have h83 : x3.toInt = (d1.toInt - 1) := tx3; omega) _ _ _ hP hD hS (lv_sub hl [0, 1, 2, 3, 4, 5] rfl)
                  · have f96 := mt (ti_eq (a := x95.toInt) (b := 0) rfl (by decide)).mpr c96
                    refine lv_aload_n hx hb dX12_findExit_114 rfl (lv_at hl 3 rfl) ?_
                    refine va_get (D := D) (ci := 12) (v := .ref (a 9)) (C := RX12) (T := TX12) (N := 69) hx hb hts (fun _ h => List.mem_cons_of_mem _ (List.mem_append_right _ h)) hown hK hP 0 rfl rfl 9 (by decide) (hts (.fieldLink RX12 25 "TalePlayModel" "form" "[I") (by decide +kernel)) (fun _ h9 => h9) rfl dX12_findExit_115 ?_
                    refine lv_iload hx hb dX12_findExit_118 (lv_at hl 0 rfl) ?_
                    refine va_iald hx hb hK hP 6 5 rfl rfl (vp_in_iff.mpr (by have h9 : y4_5.toInt = y4_5.toInt := rfl; omega)) dX12_findExit_120 ?_
                    refine lv_topi (fun x98 ex98 => ?_)
                    have rx98 : 0 ≤ x98.toInt ∧ x98.toInt ≤ 7 := by rw [ex98]; exact hI.2 9 _
                    refine lv_iconst (v := 5) hx hb dX12_findExit_121 (by decide) ?_
                    refine lv_icmp_ne (tgt := 158) hx hb dX12_findExit_122 (by decide) (fun c99 => ?_) (fun c99 => ?_)
                    · have f99 := mt (ti_eq (a := x98.toInt) (b := 5) rfl (by decide)).mpr c99
                      obtain ⟨x100, ex100⟩ : ∃ y : Int32, y = y4_5 + 1 := ⟨_, rfl⟩
                      have tx100 := ti_add (a := y4_5.toInt) (b := 1) ex100 rfl (by decide) (by omega) (by omega)
                      refine lv_iinc (v := x100) (lv' := [(5, .int x100), (4, .int y4_4), (3, .int x3), (0, .ref o), (1, .int r1), (2, .int d1)]) hx hb dX12_findExit_158 hl (k := 0) rfl (by rw [ex100]; rfl) (by decide) rfl (fun ls hl => ?_)
                      refine lv_goto (tgt := 46) hx hb dX12_findExit_161 (by decide) ?_
                      exact ih (upd i4 18 y4_5) q4 c4 d4 x100 y4_4 hI hfi hfc (by have h85 : x100.toInt = (y4_5.toInt + 1) := tx100; have h83 : x3.toInt = (d1.toInt - 1) := tx3; omega) (by have h85 : x100.toInt = (y4_5.toInt + 1) := tx100; have h83 : x3.toInt = (d1.toInt - 1) := tx3; omega) (by have h85 : x100.toInt = (y4_5.toInt + 1) := tx100; have h83 : x3.toInt = (d1.toInt - 1) := tx3; omega) _ _ _ hP hD hS (lv_sub hl [0, 1, 2, 3, 4, 5] rfl)
                    · have f99 := (ti_eq (a := x98.toInt) (b := 5) rfl (by decide)).mp c99
                      refine lv_aload_n hx hb dX12_findExit_125 rfl (lv_at hl 3 rfl) ?_
                      refine va_get (D := D) (ci := 12) (v := .ref (a 11)) (C := RX12) (T := TX12) (N := 69) hx hb hts (fun _ h => List.mem_cons_of_mem _ (List.mem_append_right _ h)) hown hK hP 0 rfl rfl 11 (by decide) (hts (.fieldLink RX12 31 "TalePlayModel" "middle" "[I") (by decide +kernel)) (fun _ h9 => h9) rfl dX12_findExit_126 ?_
                      refine lv_iload hx hb dX12_findExit_129 (lv_at hl 0 rfl) ?_
                      refine va_iald hx hb hK hP 8 7 rfl rfl (vp_in_iff.mpr (by have h9 : y4_5.toInt = y4_5.toInt := rfl; omega)) dX12_findExit_131 ?_
                      refine lv_topi (fun x101 ex101 => ?_)
                      have rx101 : 0 ≤ x101.toInt ∧ x101.toInt ≤ 29 := by rw [ex101]; exact hI.2 11 _
                      refine lv_iload_n hx hb dX12_findExit_132 rfl (lv_at hl 4 rfl) ?_
                      refine lv_icmp_ne (tgt := 158) hx hb dX12_findExit_133 (by decide) (fun c102 => ?_) (fun c102 => ?_)
                      · have f102 := mt (ti_eq (a := x101.toInt) (b := r1.toInt) rfl rfl).mpr c102
                        obtain ⟨x103, ex103⟩ : ∃ y : Int32, y = y4_5 + 1 := ⟨_, rfl⟩
                        have tx103 := ti_add (a := y4_5.toInt) (b := 1) ex103 rfl (by decide) (by omega) (by omega)
                        refine lv_iinc (v := x103) (lv' := [(5, .int x103), (4, .int y4_4), (3, .int x3), (0, .ref o), (1, .int r1), (2, .int d1)]) hx hb dX12_findExit_158 hl (k := 0) rfl (by rw [ex103]; rfl) (by decide) rfl (fun ls hl => ?_)
                        refine lv_goto (tgt := 46) hx hb dX12_findExit_161 (by decide) ?_
                        exact ih (upd i4 18 y4_5) q4 c4 d4 x103 y4_4 hI hfi hfc (by have h85 : x103.toInt = (y4_5.toInt + 1) := tx103; have h83 : x3.toInt = (d1.toInt - 1) := tx3; omega) (by have h85 : x103.toInt = (y4_5.toInt + 1) := tx103; have h83 : x3.toInt = (d1.toInt - 1) := tx3; omega) (by have h85 : x103.toInt = (y4_5.toInt + 1) := tx103; have h83 : x3.toInt = (d1.toInt - 1) := tx3; omega) _ _ _ hP hD hS (lv_sub hl [0, 1, 2, 3, 4, 5] rfl)
                      · have f102 := (ti_eq (a := x101.toInt) (b := r1.toInt) rfl rfl).mp c102
                        refine lv_aload_n hx hb dX12_findExit_136 rfl (lv_at hl 3 rfl) ?_
                        refine va_get (D := D) (ci := 12) (v := .ref (a 12)) (C := RX12) (T := TX12) (N := 69) hx hb hts (fun _ h => List.mem_cons_of_mem _ (List.mem_append_right _ h)) hown hK hP 0 rfl rfl 12 (by decide) (hts (.fieldLink RX12 34 "TalePlayModel" "right" "[I") (by decide +kernel)) (fun _ h9 => h9) rfl dX12_findExit_137 ?_
                        refine lv_iload hx hb dX12_findExit_140 (lv_at hl 0 rfl) ?_
                        refine va_iald hx hb hK hP 9 8 rfl rfl (vp_in_iff.mpr (by have h9 : y4_5.toInt = y4_5.toInt := rfl; omega)) dX12_findExit_142 ?_
                        refine lv_topi (fun x104 ex104 => ?_)
                        have rx104 : 0 ≤ x104.toInt ∧ x104.toInt ≤ 9 := by rw [ex104]; exact hI.2 12 _
                        refine lv_iload_n hx hb dX12_findExit_143 rfl (lv_at hl 2 rfl) ?_
                        refine lv_icmp_ne (tgt := 158) hx hb dX12_findExit_144 (by decide) (fun c105 => ?_) (fun c105 => ?_)
                        · have f105 := mt (ti_eq (a := x104.toInt) (b := (d1.toInt - 1)) rfl tx3).mpr c105
                          obtain ⟨x106, ex106⟩ : ∃ y : Int32, y = y4_5 + 1 := ⟨_, rfl⟩
                          have tx106 := ti_add (a := y4_5.toInt) (b := 1) ex106 rfl (by decide) (by omega) (by omega)
                          refine lv_iinc (v := x106) (lv' := [(5, .int x106), (4, .int y4_4), (3, .int x3), (0, .ref o), (1, .int r1), (2, .int d1)]) hx hb dX12_findExit_158 hl (k := 0) rfl (by rw [ex106]; rfl) (by decide) rfl (fun ls hl => ?_)
                          refine lv_goto (tgt := 46) hx hb dX12_findExit_161 (by decide) ?_
                          exact ih (upd i4 18 y4_5) q4 c4 d4 x106 y4_4 hI hfi hfc (by have h85 : x106.toInt = (y4_5.toInt + 1) := tx106; have h83 : x3.toInt = (d1.toInt - 1) := tx3; omega) (by have h85 : x106.toInt = (y4_5.toInt + 1) := tx106; have h83 : x3.toInt = (d1.toInt - 1) := tx3; omega) (by have h85 : x106.toInt = (y4_5.toInt + 1) := tx106; have h83 : x3.toInt = (d1.toInt - 1) := tx3; omega) _ _ _ hP hD hS (lv_sub hl [0, 1, 2, 3, 4, 5] rfl)
                        · have f105 := (ti_eq (a := x104.toInt) (b := (d1.toInt - 1)) rfl tx3).mp c105
                          refine lv_iload hx hb dX12_findExit_147 (lv_at hl 1 rfl) ?_
                          refine lv_bipush (v := (-9)) hx hb dX12_findExit_149 (by decide) ?_
                          refine lv_icmp_ne (tgt := 158) hx hb dX12_findExit_151 (by decide) (fun c107 => ?_) (fun c107 => ?_)
                          · have f107 := mt (ti_eq (a := y4_4.toInt) (b := (-9)) rfl (by decide)).mpr c107
                            obtain ⟨x108, ex108⟩ : ∃ y : Int32, y = y4_5 + 1 := ⟨_, rfl⟩
                            have tx108 := ti_add (a := y4_5.toInt) (b := 1) ex108 rfl (by decide) (by omega) (by omega)
                            refine lv_iinc (v := x108) (lv' := [(5, .int x108), (4, .int y4_4), (3, .int x3), (0, .ref o), (1, .int r1), (2, .int d1)]) hx hb dX12_findExit_158 hl (k := 0) rfl (by rw [ex108]; rfl) (by decide) rfl (fun ls hl => ?_)
                            refine lv_goto (tgt := 46) hx hb dX12_findExit_161 (by decide) ?_
                            exact ih (upd i4 18 y4_5) q4 c4 d4 x108 y4_4 hI hfi hfc (by have h85 : x108.toInt = (y4_5.toInt + 1) := tx108; have h83 : x3.toInt = (d1.toInt - 1) := tx3; omega) (by have h85 : x108.toInt = (y4_5.toInt + 1) := tx108; have h83 : x3.toInt = (d1.toInt - 1) := tx3; omega) (by have h85 : x108.toInt = (y4_5.toInt + 1) := tx108; have h83 : x3.toInt = (d1.toInt - 1) := tx3; omega) _ _ _ hP hD hS (lv_sub hl [0, 1, 2, 3, 4, 5] rfl)
                          · have f107 := (ti_eq (a := y4_4.toInt) (b := (-9)) rfl (by decide)).mp c107
                            refine lv_iload hx hb dX12_findExit_154 (lv_at hl 0 rfl) ?_
                            refine lv_istore (lv' := [(4, .int y4_5), (5, .int y4_5), (3, .int x3), (0, .ref o), (1, .int r1), (2, .int d1)]) hx hb dX12_findExit_156 hl (by decide) rfl (fun ls hl => ?_)
                            obtain ⟨x109, ex109⟩ : ∃ y : Int32, y = y4_5 + 1 := ⟨_, rfl⟩
                            have tx109 := ti_add (a := y4_5.toInt) (b := 1) ex109 rfl (by decide) (by omega) (by omega)
                            refine lv_iinc (v := x109) (lv' := [(5, .int x109), (4, .int y4_5), (3, .int x3), (0, .ref o), (1, .int r1), (2, .int d1)]) hx hb dX12_findExit_158 hl (k := 1) rfl (by rw [ex109]; rfl) (by decide) rfl (fun ls hl => ?_)
                            refine lv_goto (tgt := 46) hx hb dX12_findExit_161 (by decide) ?_
                            exact ih (upd i4 18 y4_5) q4 c4 d4 x109 y4_5 hI hfi hfc (by have h85 : x109.toInt = (y4_5.toInt + 1) := tx109; have h83 : x3.toInt = (d1.toInt - 1) := tx3; omega) (by have h85 : x109.toInt = (y4_5.toInt + 1) := tx109; have h83 : x3.toInt = (d1.toInt - 1) := tx3; omega) (by have h85 : x109.toInt = (y4_5.toInt + 1) := tx109; have h83 : x3.toInt = (d1.toInt - 1) := tx3; omega) _ _ _ hP hD hS (lv_sub hl [0, 1, 2, 3, 4, 5] rfl)
    exact lp4 _ (upd (upd (upd (upd i 16 (-9)) 17 (-9)) 18 (-9)) 19 0) q c d (0 : Int32) ((-9) : Int32) hI hfi hfc (by have h616 : ((-9) : Int32).toInt = -9 := (by decide); have h617 : ((-9) : Int32).toInt = -9 := (by decide); have h618 : ((-9) : Int32).toInt = -9 := (by decide); have h619 : (0 : Int32).toInt = 0 := (by decide); have h85 : (0 : Int32).toInt = 0 := (by decide); have h84 : ((-9) : Int32).toInt = -9 := (by decide); have h83 : x3.toInt = (d1.toInt - 1) := tx3; omega) (by have h616 : ((-9) : Int32).toInt = -9 := (by decide); have h617 : ((-9) : Int32).toInt = -9 := (by decide); have h618 : ((-9) : Int32).toInt = -9 := (by decide); have h619 : (0 : Int32).toInt = 0 := (by decide); have h85 : (0 : Int32).toInt = 0 := (by decide); have h84 : ((-9) : Int32).toInt = -9 := (by decide); have h83 : x3.toInt = (d1.toInt - 1) := tx3; omega) (Nat.lt_succ_self _) _ _ _ hP hD hS (lv_sub hl [0, 1, 2, 3, 4, 5] rfl)
  · have f2 := (ti_eq (a := x1.toInt) (b := 0) rfl (by decide)).mp c2
    refine lv_iload_n hx hb dX12_findExit_29 rfl (lv_at hl 2 rfl) ?_
    refine lv_iconst (v := 1) hx hb dX12_findExit_30 (by decide) ?_
    refine lv_iadd hx hb dX12_findExit_31 ?_
    refine lv_topi (fun x110 ex110 => ?_)
    have tx110 := ti_add (a := d1.toInt) (b := 1) ex110 rfl (by decide) (by omega) (by omega)
    refine lv_goto (tgt := 38) hx hb dX12_findExit_32 (by decide) ?_
    refine lv_istore_n (lv' := [(3, .int x110), (0, .ref o), (1, .int r1), (2, .int d1)]) hx hb dX12_findExit_38 rfl hl (by decide) rfl (fun ls hl => ?_)
    refine lv_bipush (v := (-9)) hx hb dX12_findExit_39 (by decide) ?_
    refine lv_istore (lv' := [(4, .int (-9)), (3, .int x110), (0, .ref o), (1, .int r1), (2, .int d1)]) hx hb dX12_findExit_41 hl (by decide) rfl (fun ls hl => ?_)
    refine lv_iconst (v := 0) hx hb dX12_findExit_43 (by decide) ?_
    refine lv_istore (lv' := [(5, .int 0), (4, .int (-9)), (3, .int x110), (0, .ref o), (1, .int r1), (2, .int d1)]) hx hb dX12_findExit_44 hl (by decide) rfl (fun ls hl => ?_)
    have lp111 : ∀ (fu : Nat) (i111 : Nat → Int32) (q111 : Int64) (c111 : Nat → Nat → Int32) (d111 : Nat → Nat → Int64) (y111_5 : Int32) (y111_4 : Int32), mInv i111 c111 → (∀ k, k ∉ ([16, 17, 18, 19] : List Nat) → i111 k = i k) → (∀ k, k ∉ ([] : List Nat) → c111 k = c k) → (0 ≤ y111_5.toInt ∧ y111_5.toInt ≤ 200) → (y111_4.toInt = -9 ∨ (0 ≤ y111_4.toInt ∧ y111_4.toInt ≤ 199)) → (200 - y111_5.toInt).toNat < fu → ∀ (H : Heap) (locs : List Loc) (ls : Array Slot), va_P D vwCl (mW o a t i111 q111 c111 d111) H → va_D A (mW o a t i111 q111 c111 d111) → va_S A s.heap H locs → lv_has ls 6 [(5, .int y111_5), (4, .int y111_4), (3, .int x110), (0, .ref o), (1, .int r1), (2, .int d1)] → W p l e (headSpec wm_X12_findExit ({ frames := 1, cells := 0, slots := 0, locals := 23 })).room s m ([.ref o, .int r1, .int d1] : List Value).toArray below meth cd H locs 0 0 (MQ below (va_Qi (fun (r : Int32) (u : MS) => (0 ≤ r.toInt ∧ r.toInt ≤ 1) ∧ mInv u.1 u.2.2.1 ∧ (∀ k, k ∉ ([16, 17, 18, 19] : List Nat) → u.1 k = i k) ∧ (∀ k, k ∉ ([] : List Nat) → u.2.2.1 k = c k)) (oC D A (fun u : MS => mW o a t u.1 u.2.1 u.2.2.1 u.2.2.2) (fun _ => [])) A) ([.ref o, .int r1, .int d1] : List Value).toArray s 0 0 A) (F0 m 46 ls []) := by
      intro fu
      induction fu with
      | zero => intro i111 q111 c111 d111 y111_5 y111_4 hI hfi hfc hy111_5 hy111_4 hm; exact absurd hm (Nat.not_lt_zero _)
      | succ fu ih =>
        intro i111 q111 c111 d111 y111_5 y111_4 hI hfi hfc hy111_5 hy111_4 hm H locs ls hP hD hS hl
        refine lv_iload hx hb dX12_findExit_46 (lv_at hl 0 rfl) ?_
        refine lv_aload_n hx hb dX12_findExit_48 rfl (lv_at hl 3 rfl) ?_
        refine va_get (D := D) (ci := 12) (v := .int (i111 8)) (C := RX12) (T := TX12) (N := 69) hx hb hts (fun _ h => List.mem_cons_of_mem _ (List.mem_append_right _ h)) hown hK hP 0 rfl rfl 8 (by decide) (hts (.fieldLink RX12 202 "TalePlayModel" "sentences" "I") (by decide +kernel)) (fun _ h9 => h9) rfl dX12_findExit_49 ?_
        have rb8_i111 : 0 ≤ (i111 8).toInt ∧ (i111 8).toInt ≤ 200 := hI.1 8
        refine lv_icmp_ge (tgt := 164) hx hb dX12_findExit_52 (by decide) (fun c112 => ?_) (fun c112 => ?_)
        · have f112 := (ti_le (a := (i111 8).toInt) (b := y111_5.toInt) rfl rfl).mp c112
          refine lv_aload_n hx hb dX12_findExit_164 rfl (lv_at hl 3 rfl) ?_
          refine va_get (D := D) (ci := 12) (v := .int (i111 18)) (C := RX12) (T := TX12) (N := 69) hx hb hts (fun _ h => List.mem_cons_of_mem _ (List.mem_append_right _ h)) hown hK hP 0 rfl rfl 18 (by decide) (hts (.fieldLink RX12 269 "TalePlayModel" "bySentence" "I") (by decide +kernel)) (fun _ h9 => h9) rfl dX12_findExit_165 ?_
          have rb18_i111 : (i111 18).toInt = -9 ∨ (0 ≤ (i111 18).toInt ∧ (i111 18).toInt ≤ 199) := hI.1 18
          refine lv_bipush (v := (-9)) hx hb dX12_findExit_168 (by decide) ?_
          refine lv_icmp_eq (tgt := 219) hx hb dX12_findExit_170 (by decide) (fun c113 => ?_) (fun c113 => ?_)
          · have f113 := (ti_eq (a := (i111 18).toInt) (b := (-9)) rfl (by decide)).mp c113
            refine lv_aload_n hx hb dX12_findExit_219 rfl (lv_at hl 3 rfl) ?_
            refine va_get (D := D) (ci := 12) (v := .int (i111 18)) (C := RX12) (T := TX12) (N := 69) hx hb hts (fun _ h => List.mem_cons_of_mem _ (List.mem_append_right _ h)) hown hK hP 0 rfl rfl 18 (by decide) (hts (.fieldLink RX12 269 "TalePlayModel" "bySentence" "I") (by decide +kernel)) (fun _ h9 => h9) rfl dX12_findExit_220 ?_
            refine lv_bipush (v := (-9)) hx hb dX12_findExit_223 (by decide) ?_
            refine lv_icmp_eq (tgt := 244) hx hb dX12_findExit_225 (by decide) (fun c114 => ?_) (fun c114 => ?_)
            · have f114 := (ti_eq (a := (i111 18).toInt) (b := (-9)) rfl (by decide)).mp c114
              refine lv_iload hx hb dX12_findExit_244 (lv_at hl 1 rfl) ?_
              refine lv_bipush (v := (-9)) hx hb dX12_findExit_246 (by decide) ?_
              refine lv_icmp_eq (tgt := 273) hx hb dX12_findExit_248 (by decide) (fun c115 => ?_) (fun c115 => ?_)
              · have f115 := (ti_eq (a := y111_4.toInt) (b := (-9)) rfl (by decide)).mp c115
                refine lv_aload_n hx hb dX12_findExit_273 rfl (lv_at hl 3 rfl) ?_
                refine va_get (D := D) (ci := 12) (v := .int (i111 18)) (C := RX12) (T := TX12) (N := 69) hx hb hts (fun _ h => List.mem_cons_of_mem _ (List.mem_append_right _ h)) hown hK hP 0 rfl rfl 18 (by decide) (hts (.fieldLink RX12 269 "TalePlayModel" "bySentence" "I") (by decide +kernel)) (fun _ h9 => h9) rfl dX12_findExit_274 ?_
                refine lv_bipush (v := (-9)) hx hb dX12_findExit_277 (by decide) ?_
                refine lv_icmp_eq (tgt := 286) hx hb dX12_findExit_279 (by decide) (fun c116 => ?_) (fun c116 => ?_)
                · have f116 := (ti_eq (a := (i111 18).toInt) (b := (-9)) rfl (by decide)).mp c116
                  refine lv_iconst (v := 0) hx hb dX12_findExit_286 (by decide) ?_
                  exact rw_zret (i111, q111, c111, d111) hx hb hr hlocks hS (hK.sub (tys' := []) [] rfl) hP hD rfl dX12_findExit_287 ⟨(show 0 ≤ (0 : Int32).toInt ∧ (0 : Int32).toInt ≤ 1 from by decide), hI, hfi, hfc⟩
                · have f116 := mt (ti_eq (a := (i111 18).toInt) (b := (-9)) rfl (by decide)).mpr c116
                  refine lv_iconst (v := 1) hx hb dX12_findExit_282 (by decide) ?_
                  refine lv_goto (tgt := 287) hx hb dX12_findExit_283 (by decide) ?_
                  exact rw_zret (i111, q111, c111, d111) hx hb hr hlocks hS (hK.sub (tys' := []) [] rfl) hP hD rfl dX12_findExit_287 ⟨(show 0 ≤ (1 : Int32).toInt ∧ (1 : Int32).toInt ≤ 1 from by decide), hI, hfi, hfc⟩
              · have f115 := mt (ti_eq (a := y111_4.toInt) (b := (-9)) rfl (by decide)).mpr c115
                refine lv_aload_n hx hb dX12_findExit_251 rfl (lv_at hl 3 rfl) ?_
                refine lv_iload hx hb dX12_findExit_252 (lv_at hl 1 rfl) ?_
                refine va_put (D := D) (ci := 12) (v := .int y111_4) (ty := .int) (C := RX12) (T := TX12) (N := 69) hx hb hts (fun _ h => List.mem_cons_of_mem _ (List.mem_append_right _ h)) tyX12 tyX12_ok nmX12 hown hK hP hD hS 0 rfl rfl 18 (by decide) (hts (.fieldLink RX12 269 "TalePlayModel" "bySentence" "I") (by decide +kernel)) (fun _ h9 => h9) rfl (by decide +kernel) rfl rfl (Nat.le_of_ble_eq_true rfl) dX12_findExit_254 (fun H locs hP hD hS => ?_)
                have hI := mInv_i hI (k := 18) (v := y111_4) (show (y111_4 : Int32).toInt = -9 ∨ (0 ≤ (y111_4 : Int32).toInt ∧ (y111_4 : Int32).toInt ≤ 199) from by omega)
                have hfi := fr_i hfi (k := 18) (v := y111_4) (by decide)
                have hP : va_P D vwCl (mW o a t (upd i111 18 y111_4) q111 c111 d111) H := hP
                have hD : va_D A (mW o a t (upd i111 18 y111_4) q111 c111 d111) := hD
                refine lv_aload_n hx hb dX12_findExit_257 rfl (lv_at hl 3 rfl) ?_
                refine lv_iconst (v := 1) hx hb dX12_findExit_258 (by decide) ?_
                refine va_put (D := D) (ci := 12) (v := .int 1) (ty := .boolean) (C := RX12) (T := TX12) (N := 69) hx hb hts (fun _ h => List.mem_cons_of_mem _ (List.mem_append_right _ h)) tyX12 tyX12_ok nmX12 hown hK hP hD hS 0 rfl rfl 19 (by decide) (hts (.fieldLink RX12 272 "TalePlayModel" "isImplied" "Z") (by decide +kernel)) (fun _ h9 => h9) rfl (by decide +kernel) rfl rfl (Nat.le_of_ble_eq_true rfl) dX12_findExit_259 (fun H locs hP hD hS => ?_)
                have hI := mInv_i hI (k := 19) (v := 1) (show 0 ≤ (1 : Int32).toInt ∧ (1 : Int32).toInt ≤ 1 from by decide)
                have hfi := fr_i hfi (k := 19) (v := 1) (by decide)
                have hP : va_P D vwCl (mW o a t (upd (upd i111 18 y111_4) 19 1) q111 c111 d111) H := hP
                have hD : va_D A (mW o a t (upd (upd i111 18 y111_4) 19 1) q111 c111 d111) := hD
                refine lv_aload_n hx hb dX12_findExit_262 rfl (lv_at hl 3 rfl) ?_
                refine lv_aload_n hx hb dX12_findExit_263 rfl (lv_at hl 3 rfl) ?_
                refine va_get (D := D) (ci := 12) (v := .ref (a 10)) (C := RX12) (T := TX12) (N := 69) hx hb hts (fun _ h => List.mem_cons_of_mem _ (List.mem_append_right _ h)) hown hK hP 0 rfl rfl 10 (by decide) (hts (.fieldLink RX12 28 "TalePlayModel" "left" "[I") (by decide +kernel)) (fun _ h9 => h9) rfl dX12_findExit_264 ?_
                refine lv_iload hx hb dX12_findExit_267 (lv_at hl 1 rfl) ?_
                refine va_iald hx hb hK hP 7 6 rfl rfl (vp_in_iff.mpr (by have h9 : y111_4.toInt = y111_4.toInt := rfl; omega)) dX12_findExit_269 ?_
                refine lv_topi (fun x117 ex117 => ?_)
                have rx117 : 0 ≤ x117.toInt ∧ x117.toInt ≤ 29 := by rw [ex117]; exact hI.2 10 _
                refine va_put (D := D) (ci := 12) (v := .int x117) (ty := .int) (C := RX12) (T := TX12) (N := 69) hx hb hts (fun _ h => List.mem_cons_of_mem _ (List.mem_append_right _ h)) tyX12 tyX12_ok nmX12 hown hK hP hD hS 0 rfl rfl 16 (by decide) (hts (.fieldLink RX12 263 "TalePlayModel" "leads" "I") (by decide +kernel)) (fun _ h9 => h9) rfl (by decide +kernel) rfl rfl (Nat.le_of_ble_eq_true rfl) dX12_findExit_270 (fun H locs hP hD hS => ?_)
                have hI := mInv_i hI (k := 16) (v := x117) (show (x117 : Int32).toInt = -9 ∨ (0 ≤ (x117 : Int32).toInt ∧ (x117 : Int32).toInt ≤ 29) from by omega)
                have hfi := fr_i hfi (k := 16) (v := x117) (by decide)
                have hP : va_P D vwCl (mW o a t (upd (upd (upd i111 18 y111_4) 19 1) 16 x117) q111 c111 d111) H := hP
                have hD : va_D A (mW o a t (upd (upd (upd i111 18 y111_4) 19 1) 16 x117) q111 c111 d111) := hD
                refine lv_aload_n hx hb dX12_findExit_273 rfl (lv_at hl 3 rfl) ?_
                refine va_get (D := D) (ci := 12) (v := .int y111_4) (C := RX12) (T := TX12) (N := 69) hx hb hts (fun _ h => List.mem_cons_of_mem _ (List.mem_append_right _ h)) hown hK hP 0 rfl rfl 18 (by decide) (hts (.fieldLink RX12 269 "TalePlayModel" "bySentence" "I") (by decide +kernel)) (fun _ h9 => h9) rfl dX12_findExit_274 ?_
                refine lv_bipush (v := (-9)) hx hb dX12_findExit_277 (by decide) ?_
                refine lv_icmp_eq (tgt := 286) hx hb dX12_findExit_279 (by decide) (fun c118 => ?_) (fun c118 => ?_)
                · have f118 := (ti_eq (a := y111_4.toInt) (b := (-9)) rfl (by decide)).mp c118
                  refine lv_iconst (v := 0) hx hb dX12_findExit_286 (by decide) ?_
                  exact rw_zret ((upd (upd (upd i111 18 y111_4) 19 1) 16 x117), q111, c111, d111) hx hb hr hlocks hS (hK.sub (tys' := []) [] rfl) hP hD rfl dX12_findExit_287 ⟨(show 0 ≤ (0 : Int32).toInt ∧ (0 : Int32).toInt ≤ 1 from by decide), hI, hfi, hfc⟩
                · have f118 := mt (ti_eq (a := y111_4.toInt) (b := (-9)) rfl (by decide)).mpr c118
                  refine lv_iconst (v := 1) hx hb dX12_findExit_282 (by decide) ?_
                  refine lv_goto (tgt := 287) hx hb dX12_findExit_283 (by decide) ?_
                  exact rw_zret ((upd (upd (upd i111 18 y111_4) 19 1) 16 x117), q111, c111, d111) hx hb hr hlocks hS (hK.sub (tys' := []) [] rfl) hP hD rfl dX12_findExit_287 ⟨(show 0 ≤ (1 : Int32).toInt ∧ (1 : Int32).toInt ≤ 1 from by decide), hI, hfi, hfc⟩
            · have f114 := mt (ti_eq (a := (i111 18).toInt) (b := (-9)) rfl (by decide)).mpr c114
              refine lv_aload_n hx hb dX12_findExit_228 rfl (lv_at hl 3 rfl) ?_
              refine lv_aload_n hx hb dX12_findExit_229 rfl (lv_at hl 3 rfl) ?_
              refine va_get (D := D) (ci := 12) (v := .ref (a 11)) (C := RX12) (T := TX12) (N := 69) hx hb hts (fun _ h => List.mem_cons_of_mem _ (List.mem_append_right _ h)) hown hK hP 0 rfl rfl 11 (by decide) (hts (.fieldLink RX12 31 "TalePlayModel" "middle" "[I") (by decide +kernel)) (fun _ h9 => h9) rfl dX12_findExit_230 ?_
              refine lv_aload_n hx hb dX12_findExit_233 rfl (lv_at hl 3 rfl) ?_
              refine va_get (D := D) (ci := 12) (v := .int (i111 18)) (C := RX12) (T := TX12) (N := 69) hx hb hts (fun _ h => List.mem_cons_of_mem _ (List.mem_append_right _ h)) hown hK hP 0 rfl rfl 18 (by decide) (hts (.fieldLink RX12 269 "TalePlayModel" "bySentence" "I") (by decide +kernel)) (fun _ h9 => h9) rfl dX12_findExit_234 ?_
              refine va_iald hx hb hK hP 8 7 rfl rfl (vp_in_iff.mpr (by have h9 : (i111 18).toInt = (i111 18).toInt := rfl; omega)) dX12_findExit_237 ?_
              refine lv_topi (fun x119 ex119 => ?_)
              have rx119 : 0 ≤ x119.toInt ∧ x119.toInt ≤ 29 := by rw [ex119]; exact hI.2 11 _
              refine va_put (D := D) (ci := 12) (v := .int x119) (ty := .int) (C := RX12) (T := TX12) (N := 69) hx hb hts (fun _ h => List.mem_cons_of_mem _ (List.mem_append_right _ h)) tyX12 tyX12_ok nmX12 hown hK hP hD hS 0 rfl rfl 16 (by decide) (hts (.fieldLink RX12 263 "TalePlayModel" "leads" "I") (by decide +kernel)) (fun _ h9 => h9) rfl (by decide +kernel) rfl rfl (Nat.le_of_ble_eq_true rfl) dX12_findExit_238 (fun H locs hP hD hS => ?_)
              have hI := mInv_i hI (k := 16) (v := x119) (show (x119 : Int32).toInt = -9 ∨ (0 ≤ (x119 : Int32).toInt ∧ (x119 : Int32).toInt ≤ 29) from by omega)
              have hfi := fr_i hfi (k := 16) (v := x119) (by decide)
              have hP : va_P D vwCl (mW o a t (upd i111 16 x119) q111 c111 d111) H := hP
              have hD : va_D A (mW o a t (upd i111 16 x119) q111 c111 d111) := hD
              refine lv_goto (tgt := 273) hx hb dX12_findExit_241 (by decide) ?_
              refine lv_aload_n hx hb dX12_findExit_273 rfl (lv_at hl 3 rfl) ?_
              refine va_get (D := D) (ci := 12) (v := .int (i111 18)) (C := RX12) (T := TX12) (N := 69) hx hb hts (fun _ h => List.mem_cons_of_mem _ (List.mem_append_right _ h)) hown hK hP 0 rfl rfl 18 (by decide) (hts (.fieldLink RX12 269 "TalePlayModel" "bySentence" "I") (by decide +kernel)) (fun _ h9 => h9) rfl dX12_findExit_274 ?_
              refine lv_bipush (v := (-9)) hx hb dX12_findExit_277 (by decide) ?_
              refine lv_icmp_eq (tgt := 286) hx hb dX12_findExit_279 (by decide) (fun c120 => ?_) (fun c120 => ?_)
              · have f120 := (ti_eq (a := (i111 18).toInt) (b := (-9)) rfl (by decide)).mp c120
                refine lv_iconst (v := 0) hx hb dX12_findExit_286 (by decide) ?_
                exact rw_zret ((upd i111 16 x119), q111, c111, d111) hx hb hr hlocks hS (hK.sub (tys' := []) [] rfl) hP hD rfl dX12_findExit_287 ⟨(show 0 ≤ (0 : Int32).toInt ∧ (0 : Int32).toInt ≤ 1 from by decide), hI, hfi, hfc⟩
              · have f120 := mt (ti_eq (a := (i111 18).toInt) (b := (-9)) rfl (by decide)).mpr c120
                refine lv_iconst (v := 1) hx hb dX12_findExit_282 (by decide) ?_
                refine lv_goto (tgt := 287) hx hb dX12_findExit_283 (by decide) ?_
                exact rw_zret ((upd i111 16 x119), q111, c111, d111) hx hb hr hlocks hS (hK.sub (tys' := []) [] rfl) hP hD rfl dX12_findExit_287 ⟨(show 0 ≤ (1 : Int32).toInt ∧ (1 : Int32).toInt ≤ 1 from by decide), hI, hfi, hfc⟩
          · have f113 := mt (ti_eq (a := (i111 18).toInt) (b := (-9)) rfl (by decide)).mpr c113
            refine lv_aload_n hx hb dX12_findExit_173 rfl (lv_at hl 3 rfl) ?_
            refine lv_aload_n hx hb dX12_findExit_174 rfl (lv_at hl 3 rfl) ?_
            refine va_get (D := D) (ci := 12) (v := .ref (a 11)) (C := RX12) (T := TX12) (N := 69) hx hb hts (fun _ h => List.mem_cons_of_mem _ (List.mem_append_right _ h)) hown hK hP 0 rfl rfl 11 (by decide) (hts (.fieldLink RX12 31 "TalePlayModel" "middle" "[I") (by decide +kernel)) (fun _ h9 => h9) rfl dX12_findExit_175 ?_
            refine lv_aload_n hx hb dX12_findExit_178 rfl (lv_at hl 3 rfl) ?_
            refine va_get (D := D) (ci := 12) (v := .int (i111 18)) (C := RX12) (T := TX12) (N := 69) hx hb hts (fun _ h => List.mem_cons_of_mem _ (List.mem_append_right _ h)) hown hK hP 0 rfl rfl 18 (by decide) (hts (.fieldLink RX12 269 "TalePlayModel" "bySentence" "I") (by decide +kernel)) (fun _ h9 => h9) rfl dX12_findExit_179 ?_
            refine va_iald hx hb hK hP 8 7 rfl rfl (vp_in_iff.mpr (by have h9 : (i111 18).toInt = (i111 18).toInt := rfl; omega)) dX12_findExit_182 ?_
            refine lv_topi (fun x121 ex121 => ?_)
            have rx121 : 0 ≤ x121.toInt ∧ x121.toInt ≤ 29 := by rw [ex121]; exact hI.2 11 _
            refine lv_iconst (v := 2) hx hb dX12_findExit_183 (by decide) ?_
            refine ro_calli (va_runV (As := [.int x121, .int 2]) (rest := []) ⟨hx, hb, hml, hown, hts⟩ (s_X12_isOf l D H.size o a t i111 q111 c111 d111 x121 2 hI (by have h91 : (2 : Int32).toInt = 2 := (by decide); omega)) (cwV 2 hts gm_X12_findExit_X12_isOf rfl rfl rfl (by decide +kernel) ⟨Nat.le_of_ble_eq_true rfl, Nat.le_of_ble_eq_true rfl⟩) (pA_V hK hP (ci := 12) (q0 := 0) rfl rfl) rfl rfl hl.1 rfl (lv_room (Nat.le_of_ble_eq_true rfl)) dX12_findExit_184 ⟨Nat.le_of_ble_eq_true rfl, Nat.le_of_ble_eq_true rfl⟩) hS hA hP (fun r122 u122 H locs hw122 hP hS => ?_)
            have hw122 : 0 ≤ r122.toInt ∧ r122.toInt ≤ 1 := hw122
            refine lv_if_eq (tgt := 219) hx hb dX12_findExit_187 (by decide) (fun c123 => ?_) (fun c123 => ?_)
            · have f123 := (ti_eq (a := r122.toInt) (b := 0) rfl (by decide)).mp c123
              refine lv_aload_n hx hb dX12_findExit_219 rfl (lv_at hl 3 rfl) ?_
              refine va_get (D := D) (ci := 12) (v := .int (i111 18)) (C := RX12) (T := TX12) (N := 69) hx hb hts (fun _ h => List.mem_cons_of_mem _ (List.mem_append_right _ h)) hown hK hP 0 rfl rfl 18 (by decide) (hts (.fieldLink RX12 269 "TalePlayModel" "bySentence" "I") (by decide +kernel)) (fun _ h9 => h9) rfl dX12_findExit_220 ?_
              refine lv_bipush (v := (-9)) hx hb dX12_findExit_223 (by decide) ?_
              refine lv_icmp_eq (tgt := 244) hx hb dX12_findExit_225 (by decide) (fun c124 => ?_) (fun c124 => ?_)
              · have f124 := (ti_eq (a := (i111 18).toInt) (b := (-9)) rfl (by decide)).mp c124
                refine lv_iload hx hb dX12_findExit_244 (lv_at hl 1 rfl) ?_
                refine lv_bipush (v := (-9)) hx hb dX12_findExit_246 (by decide) ?_
                refine lv_icmp_eq (tgt := 273) hx hb dX12_findExit_248 (by decide) (fun c125 => ?_) (fun c125 => ?_)
                · have f125 := (ti_eq (a := y111_4.toInt) (b := (-9)) rfl (by decide)).mp c125
                  refine lv_aload_n hx hb dX12_findExit_273 rfl (lv_at hl 3 rfl) ?_
                  refine va_get (D := D) (ci := 12) (v := .int (i111 18)) (C := RX12) (T := TX12) (N := 69) hx hb hts (fun _ h => List.mem_cons_of_mem _ (List.mem_append_right _ h)) hown hK hP 0 rfl rfl 18 (by decide) (hts (.fieldLink RX12 269 "TalePlayModel" "bySentence" "I") (by decide +kernel)) (fun _ h9 => h9) rfl dX12_findExit_274 ?_
                  refine lv_bipush (v := (-9)) hx hb dX12_findExit_277 (by decide) ?_
                  refine lv_icmp_eq (tgt := 286) hx hb dX12_findExit_279 (by decide) (fun c126 => ?_) (fun c126 => ?_)
                  · have f126 := (ti_eq (a := (i111 18).toInt) (b := (-9)) rfl (by decide)).mp c126
                    refine lv_iconst (v := 0) hx hb dX12_findExit_286 (by decide) ?_
                    exact rw_zret (i111, q111, c111, d111) hx hb hr hlocks hS (hK.sub (tys' := []) [] rfl) hP hD rfl dX12_findExit_287 ⟨(show 0 ≤ (0 : Int32).toInt ∧ (0 : Int32).toInt ≤ 1 from by decide), hI, hfi, hfc⟩
                  · have f126 := mt (ti_eq (a := (i111 18).toInt) (b := (-9)) rfl (by decide)).mpr c126
                    refine lv_iconst (v := 1) hx hb dX12_findExit_282 (by decide) ?_
                    refine lv_goto (tgt := 287) hx hb dX12_findExit_283 (by decide) ?_
                    exact rw_zret (i111, q111, c111, d111) hx hb hr hlocks hS (hK.sub (tys' := []) [] rfl) hP hD rfl dX12_findExit_287 ⟨(show 0 ≤ (1 : Int32).toInt ∧ (1 : Int32).toInt ≤ 1 from by decide), hI, hfi, hfc⟩
                · have f125 := mt (ti_eq (a := y111_4.toInt) (b := (-9)) rfl (by decide)).mpr c125
                  refine lv_aload_n hx hb dX12_findExit_251 rfl (lv_at hl 3 rfl) ?_
                  refine lv_iload hx hb dX12_findExit_252 (lv_at hl 1 rfl) ?_
                  refine va_put (D := D) (ci := 12) (v := .int y111_4) (ty := .int) (C := RX12) (T := TX12) (N := 69) hx hb hts (fun _ h => List.mem_cons_of_mem _ (List.mem_append_right _ h)) tyX12 tyX12_ok nmX12 hown hK hP hD hS 0 rfl rfl 18 (by decide) (hts (.fieldLink RX12 269 "TalePlayModel" "bySentence" "I") (by decide +kernel)) (fun _ h9 => h9) rfl (by decide +kernel) rfl rfl (Nat.le_of_ble_eq_true rfl) dX12_findExit_254 (fun H locs hP hD hS => ?_)
                  have hI := mInv_i hI (k := 18) (v := y111_4) (show (y111_4 : Int32).toInt = -9 ∨ (0 ≤ (y111_4 : Int32).toInt ∧ (y111_4 : Int32).toInt ≤ 199) from by omega)
                  have hfi := fr_i hfi (k := 18) (v := y111_4) (by decide)
                  have hP : va_P D vwCl (mW o a t (upd i111 18 y111_4) q111 c111 d111) H := hP
                  have hD : va_D A (mW o a t (upd i111 18 y111_4) q111 c111 d111) := hD
                  refine lv_aload_n hx hb dX12_findExit_257 rfl (lv_at hl 3 rfl) ?_
                  refine lv_iconst (v := 1) hx hb dX12_findExit_258 (by decide) ?_
                  refine va_put (D := D) (ci := 12) (v := .int 1) (ty := .boolean) (C := RX12) (T := TX12) (N := 69) hx hb hts (fun _ h => List.mem_cons_of_mem _ (List.mem_append_right _ h)) tyX12 tyX12_ok nmX12 hown hK hP hD hS 0 rfl rfl 19 (by decide) (hts (.fieldLink RX12 272 "TalePlayModel" "isImplied" "Z") (by decide +kernel)) (fun _ h9 => h9) rfl (by decide +kernel) rfl rfl (Nat.le_of_ble_eq_true rfl) dX12_findExit_259 (fun H locs hP hD hS => ?_)
                  have hI := mInv_i hI (k := 19) (v := 1) (show 0 ≤ (1 : Int32).toInt ∧ (1 : Int32).toInt ≤ 1 from by decide)
                  have hfi := fr_i hfi (k := 19) (v := 1) (by decide)
                  have hP : va_P D vwCl (mW o a t (upd (upd i111 18 y111_4) 19 1) q111 c111 d111) H := hP
                  have hD : va_D A (mW o a t (upd (upd i111 18 y111_4) 19 1) q111 c111 d111) := hD
                  refine lv_aload_n hx hb dX12_findExit_262 rfl (lv_at hl 3 rfl) ?_
                  refine lv_aload_n hx hb dX12_findExit_263 rfl (lv_at hl 3 rfl) ?_
                  refine va_get (D := D) (ci := 12) (v := .ref (a 10)) (C := RX12) (T := TX12) (N := 69) hx hb hts (fun _ h => List.mem_cons_of_mem _ (List.mem_append_right _ h)) hown hK hP 0 rfl rfl 10 (by decide) (hts (.fieldLink RX12 28 "TalePlayModel" "left" "[I") (by decide +kernel)) (fun _ h9 => h9) rfl dX12_findExit_264 ?_
                  refine lv_iload hx hb dX12_findExit_267 (lv_at hl 1 rfl) ?_
                  refine va_iald hx hb hK hP 7 6 rfl rfl (vp_in_iff.mpr (by have h9 : y111_4.toInt = y111_4.toInt := rfl; omega)) dX12_findExit_269 ?_
                  refine lv_topi (fun x127 ex127 => ?_)
                  have rx127 : 0 ≤ x127.toInt ∧ x127.toInt ≤ 29 := by rw [ex127]; exact hI.2 10 _
                  refine va_put (D := D) (ci := 12) (v := .int x127) (ty := .int) (C := RX12) (T := TX12) (N := 69) hx hb hts (fun _ h => List.mem_cons_of_mem _ (List.mem_append_right _ h)) tyX12 tyX12_ok nmX12 hown hK hP hD hS 0 rfl rfl 16 (by decide) (hts (.fieldLink RX12 263 "TalePlayModel" "leads" "I") (by decide +kernel)) (fun _ h9 => h9) rfl (by decide +kernel) rfl rfl (Nat.le_of_ble_eq_true rfl) dX12_findExit_270 (fun H locs hP hD hS => ?_)
                  have hI := mInv_i hI (k := 16) (v := x127) (show (x127 : Int32).toInt = -9 ∨ (0 ≤ (x127 : Int32).toInt ∧ (x127 : Int32).toInt ≤ 29) from by omega)
                  have hfi := fr_i hfi (k := 16) (v := x127) (by decide)
                  have hP : va_P D vwCl (mW o a t (upd (upd (upd i111 18 y111_4) 19 1) 16 x127) q111 c111 d111) H := hP
                  have hD : va_D A (mW o a t (upd (upd (upd i111 18 y111_4) 19 1) 16 x127) q111 c111 d111) := hD
                  refine lv_aload_n hx hb dX12_findExit_273 rfl (lv_at hl 3 rfl) ?_
                  refine va_get (D := D) (ci := 12) (v := .int y111_4) (C := RX12) (T := TX12) (N := 69) hx hb hts (fun _ h => List.mem_cons_of_mem _ (List.mem_append_right _ h)) hown hK hP 0 rfl rfl 18 (by decide) (hts (.fieldLink RX12 269 "TalePlayModel" "bySentence" "I") (by decide +kernel)) (fun _ h9 => h9) rfl dX12_findExit_274 ?_
                  refine lv_bipush (v := (-9)) hx hb dX12_findExit_277 (by decide) ?_
                  refine lv_icmp_eq (tgt := 286) hx hb dX12_findExit_279 (by decide) (fun c128 => ?_) (fun c128 => ?_)
                  · have f128 := (ti_eq (a := y111_4.toInt) (b := (-9)) rfl (by decide)).mp c128
                    refine lv_iconst (v := 0) hx hb dX12_findExit_286 (by decide) ?_
                    exact rw_zret ((upd (upd (upd i111 18 y111_4) 19 1) 16 x127), q111, c111, d111) hx hb hr hlocks hS (hK.sub (tys' := []) [] rfl) hP hD rfl dX12_findExit_287 ⟨(show 0 ≤ (0 : Int32).toInt ∧ (0 : Int32).toInt ≤ 1 from by decide), hI, hfi, hfc⟩
                  · have f128 := mt (ti_eq (a := y111_4.toInt) (b := (-9)) rfl (by decide)).mpr c128
                    refine lv_iconst (v := 1) hx hb dX12_findExit_282 (by decide) ?_
                    refine lv_goto (tgt := 287) hx hb dX12_findExit_283 (by decide) ?_
                    exact rw_zret ((upd (upd (upd i111 18 y111_4) 19 1) 16 x127), q111, c111, d111) hx hb hr hlocks hS (hK.sub (tys' := []) [] rfl) hP hD rfl dX12_findExit_287 ⟨(show 0 ≤ (1 : Int32).toInt ∧ (1 : Int32).toInt ≤ 1 from by decide), hI, hfi, hfc⟩
              · have f124 := mt (ti_eq (a := (i111 18).toInt) (b := (-9)) rfl (by decide)).mpr c124
                refine lv_aload_n hx hb dX12_findExit_228 rfl (lv_at hl 3 rfl) ?_
                refine lv_aload_n hx hb dX12_findExit_229 rfl (lv_at hl 3 rfl) ?_
                refine va_get (D := D) (ci := 12) (v := .ref (a 11)) (C := RX12) (T := TX12) (N := 69) hx hb hts (fun _ h => List.mem_cons_of_mem _ (List.mem_append_right _ h)) hown hK hP 0 rfl rfl 11 (by decide) (hts (.fieldLink RX12 31 "TalePlayModel" "middle" "[I") (by decide +kernel)) (fun _ h9 => h9) rfl dX12_findExit_230 ?_
                refine lv_aload_n hx hb dX12_findExit_233 rfl (lv_at hl 3 rfl) ?_
                refine va_get (D := D) (ci := 12) (v := .int (i111 18)) (C := RX12) (T := TX12) (N := 69) hx hb hts (fun _ h => List.mem_cons_of_mem _ (List.mem_append_right _ h)) hown hK hP 0 rfl rfl 18 (by decide) (hts (.fieldLink RX12 269 "TalePlayModel" "bySentence" "I") (by decide +kernel)) (fun _ h9 => h9) rfl dX12_findExit_234 ?_
                refine va_iald hx hb hK hP 8 7 rfl rfl (vp_in_iff.mpr (by have h9 : (i111 18).toInt = (i111 18).toInt := rfl; omega)) dX12_findExit_237 ?_
                refine lv_topi (fun x129 ex129 => ?_)
                have rx129 : 0 ≤ x129.toInt ∧ x129.toInt ≤ 29 := by rw [ex129]; exact hI.2 11 _
                refine va_put (D := D) (ci := 12) (v := .int x129) (ty := .int) (C := RX12) (T := TX12) (N := 69) hx hb hts (fun _ h => List.mem_cons_of_mem _ (List.mem_append_right _ h)) tyX12 tyX12_ok nmX12 hown hK hP hD hS 0 rfl rfl 16 (by decide) (hts (.fieldLink RX12 263 "TalePlayModel" "leads" "I") (by decide +kernel)) (fun _ h9 => h9) rfl (by decide +kernel) rfl rfl (Nat.le_of_ble_eq_true rfl) dX12_findExit_238 (fun H locs hP hD hS => ?_)
                have hI := mInv_i hI (k := 16) (v := x129) (show (x129 : Int32).toInt = -9 ∨ (0 ≤ (x129 : Int32).toInt ∧ (x129 : Int32).toInt ≤ 29) from by omega)
                have hfi := fr_i hfi (k := 16) (v := x129) (by decide)
                have hP : va_P D vwCl (mW o a t (upd i111 16 x129) q111 c111 d111) H := hP
                have hD : va_D A (mW o a t (upd i111 16 x129) q111 c111 d111) := hD
                refine lv_goto (tgt := 273) hx hb dX12_findExit_241 (by decide) ?_
                refine lv_aload_n hx hb dX12_findExit_273 rfl (lv_at hl 3 rfl) ?_
                refine va_get (D := D) (ci := 12) (v := .int (i111 18)) (C := RX12) (T := TX12) (N := 69) hx hb hts (fun _ h => List.mem_cons_of_mem _ (List.mem_append_right _ h)) hown hK hP 0 rfl rfl 18 (by decide) (hts (.fieldLink RX12 269 "TalePlayModel" "bySentence" "I") (by decide +kernel)) (fun _ h9 => h9) rfl dX12_findExit_274 ?_
                refine lv_bipush (v := (-9)) hx hb dX12_findExit_277 (by decide) ?_
                refine lv_icmp_eq (tgt := 286) hx hb dX12_findExit_279 (by decide) (fun c130 => ?_) (fun c130 => ?_)
                · have f130 := (ti_eq (a := (i111 18).toInt) (b := (-9)) rfl (by decide)).mp c130
                  refine lv_iconst (v := 0) hx hb dX12_findExit_286 (by decide) ?_
                  exact rw_zret ((upd i111 16 x129), q111, c111, d111) hx hb hr hlocks hS (hK.sub (tys' := []) [] rfl) hP hD rfl dX12_findExit_287 ⟨(show 0 ≤ (0 : Int32).toInt ∧ (0 : Int32).toInt ≤ 1 from by decide), hI, hfi, hfc⟩
                · have f130 := mt (ti_eq (a := (i111 18).toInt) (b := (-9)) rfl (by decide)).mpr c130
                  refine lv_iconst (v := 1) hx hb dX12_findExit_282 (by decide) ?_
                  refine lv_goto (tgt := 287) hx hb dX12_findExit_283 (by decide) ?_
                  exact rw_zret ((upd i111 16 x129), q111, c111, d111) hx hb hr hlocks hS (hK.sub (tys' := []) [] rfl) hP hD rfl dX12_findExit_287 ⟨(show 0 ≤ (1 : Int32).toInt ∧ (1 : Int32).toInt ≤ 1 from by decide), hI, hfi, hfc⟩
            · have f123 := mt (ti_eq (a := r122.toInt) (b := 0) rfl (by decide)).mpr c123
              refine lv_aload_n hx hb dX12_findExit_190 rfl (lv_at hl 3 rfl) ?_
              refine lv_aload_n hx hb dX12_findExit_191 rfl (lv_at hl 3 rfl) ?_
              refine va_get (D := D) (ci := 12) (v := .ref (a 11)) (C := RX12) (T := TX12) (N := 69) hx hb hts (fun _ h => List.mem_cons_of_mem _ (List.mem_append_right _ h)) hown hK hP 0 rfl rfl 11 (by decide) (hts (.fieldLink RX12 31 "TalePlayModel" "middle" "[I") (by decide +kernel)) (fun _ h9 => h9) rfl dX12_findExit_192 ?_
              refine lv_aload_n hx hb dX12_findExit_195 rfl (lv_at hl 3 rfl) ?_
              refine va_get (D := D) (ci := 12) (v := .int (i111 18)) (C := RX12) (T := TX12) (N := 69) hx hb hts (fun _ h => List.mem_cons_of_mem _ (List.mem_append_right _ h)) hown hK hP 0 rfl rfl 18 (by decide) (hts (.fieldLink RX12 269 "TalePlayModel" "bySentence" "I") (by decide +kernel)) (fun _ h9 => h9) rfl dX12_findExit_196 ?_
              refine va_iald hx hb hK hP 8 7 rfl rfl (vp_in_iff.mpr (by have h9 : (i111 18).toInt = (i111 18).toInt := rfl; omega)) dX12_findExit_199 ?_
              refine lv_topi (fun x131 ex131 => ?_)
              have rx131 : 0 ≤ x131.toInt ∧ x131.toInt ≤ 29 := by rw [ex131]; exact hI.2 11 _
              refine va_put (D := D) (ci := 12) (v := .int x131) (ty := .int) (C := RX12) (T := TX12) (N := 69) hx hb hts (fun _ h => List.mem_cons_of_mem _ (List.mem_append_right _ h)) tyX12 tyX12_ok nmX12 hown hK hP hD hS 0 rfl rfl 17 (by decide) (hts (.fieldLink RX12 266 "TalePlayModel" "byDoor" "I") (by decide +kernel)) (fun _ h9 => h9) rfl (by decide +kernel) rfl rfl (Nat.le_of_ble_eq_true rfl) dX12_findExit_200 (fun H locs hP hD hS => ?_)
              have hI := mInv_i hI (k := 17) (v := x131) (show (x131 : Int32).toInt = -9 ∨ (0 ≤ (x131 : Int32).toInt ∧ (x131 : Int32).toInt ≤ 29) from by omega)
              have hfi := fr_i hfi (k := 17) (v := x131) (by decide)
              have hP : va_P D vwCl (mW o a t (upd i111 17 x131) q111 c111 d111) H := hP
              have hD : va_D A (mW o a t (upd i111 17 x131) q111 c111 d111) := hD
              refine lv_aload_n hx hb dX12_findExit_203 rfl (lv_at hl 3 rfl) ?_
              refine lv_aload_n hx hb dX12_findExit_204 rfl (lv_at hl 3 rfl) ?_
              refine lv_aload_n hx hb dX12_findExit_205 rfl (lv_at hl 3 rfl) ?_
              refine va_get (D := D) (ci := 12) (v := .int x131) (C := RX12) (T := TX12) (N := 69) hx hb hts (fun _ h => List.mem_cons_of_mem _ (List.mem_append_right _ h)) hown hK hP 0 rfl rfl 17 (by decide) (hts (.fieldLink RX12 266 "TalePlayModel" "byDoor" "I") (by decide +kernel)) (fun _ h9 => h9) rfl dX12_findExit_206 ?_
              refine lv_iload_n hx hb dX12_findExit_209 rfl (lv_at hl 4 rfl) ?_
              refine ro_calli (va_runV (As := [.int x131, .int r1]) (rest := [.ref o]) ⟨hx, hb, hml, hown, hts⟩ (s_X12_otherSide l D H.size o a t (upd i111 17 x131) q111 c111 d111 x131 r1 hI ) (cwV 2 hts gm_X12_findExit_X12_otherSide rfl rfl rfl (by decide +kernel) ⟨Nat.le_of_ble_eq_true rfl, Nat.le_of_ble_eq_true rfl⟩) (pA_V hK hP (ci := 12) (q0 := 0) rfl rfl) rfl rfl hl.1 rfl (lv_room (Nat.le_of_ble_eq_true rfl)) dX12_findExit_210 ⟨Nat.le_of_ble_eq_true rfl, Nat.le_of_ble_eq_true rfl⟩) hS hA hP (fun r132 u132 H locs hw132 hP hS => ?_)
              have hw132 : r132.toInt = -9 ∨ (0 ≤ r132.toInt ∧ r132.toInt ≤ 29) := hw132
              refine va_put (D := D) (ci := 12) (v := .int r132) (ty := .int) (C := RX12) (T := TX12) (N := 69) hx hb hts (fun _ h => List.mem_cons_of_mem _ (List.mem_append_right _ h)) tyX12 tyX12_ok nmX12 hown hK hP hD hS 0 rfl rfl 16 (by decide) (hts (.fieldLink RX12 263 "TalePlayModel" "leads" "I") (by decide +kernel)) (fun _ h9 => h9) rfl (by decide +kernel) rfl rfl (Nat.le_of_ble_eq_true rfl) dX12_findExit_213 (fun H locs hP hD hS => ?_)
              have hI := mInv_i hI (k := 16) (v := r132) (show (r132 : Int32).toInt = -9 ∨ (0 ≤ (r132 : Int32).toInt ∧ (r132 : Int32).toInt ≤ 29) from by omega)
              have hfi := fr_i hfi (k := 16) (v := r132) (by decide)
              have hP : va_P D vwCl (mW o a t (upd (upd i111 17 x131) 16 r132) q111 c111 d111) H := hP
              have hD : va_D A (mW o a t (upd (upd i111 17 x131) 16 r132) q111 c111 d111) := hD
              refine lv_goto (tgt := 273) hx hb dX12_findExit_216 (by decide) ?_
              refine lv_aload_n hx hb dX12_findExit_273 rfl (lv_at hl 3 rfl) ?_
              refine va_get (D := D) (ci := 12) (v := .int (i111 18)) (C := RX12) (T := TX12) (N := 69) hx hb hts (fun _ h => List.mem_cons_of_mem _ (List.mem_append_right _ h)) hown hK hP 0 rfl rfl 18 (by decide) (hts (.fieldLink RX12 269 "TalePlayModel" "bySentence" "I") (by decide +kernel)) (fun _ h9 => h9) rfl dX12_findExit_274 ?_
              refine lv_bipush (v := (-9)) hx hb dX12_findExit_277 (by decide) ?_
              refine lv_icmp_eq (tgt := 286) hx hb dX12_findExit_279 (by decide) (fun c133 => ?_) (fun c133 => ?_)
              · have f133 := (ti_eq (a := (i111 18).toInt) (b := (-9)) rfl (by decide)).mp c133
                refine lv_iconst (v := 0) hx hb dX12_findExit_286 (by decide) ?_
                exact rw_zret ((upd (upd i111 17 x131) 16 r132), q111, c111, d111) hx hb hr hlocks hS (hK.sub (tys' := []) [] rfl) hP hD rfl dX12_findExit_287 ⟨(show 0 ≤ (0 : Int32).toInt ∧ (0 : Int32).toInt ≤ 1 from by decide), hI, hfi, hfc⟩
              · have f133 := mt (ti_eq (a := (i111 18).toInt) (b := (-9)) rfl (by decide)).mpr c133
                refine lv_iconst (v := 1) hx hb dX12_findExit_282 (by decide) ?_
                refine lv_goto (tgt := 287) hx hb dX12_findExit_283 (by decide) ?_
                exact rw_zret ((upd (upd i111 17 x131) 16 r132), q111, c111, d111) hx hb hr hlocks hS (hK.sub (tys' := []) [] rfl) hP hD rfl dX12_findExit_287 ⟨(show 0 ≤ (1 : Int32).toInt ∧ (1 : Int32).toInt ≤ 1 from by decide), hI, hfi, hfc⟩
        · have f112 := mt (ti_le (a := (i111 8).toInt) (b := y111_5.toInt) rfl rfl).mpr c112
          refine lv_aload_n hx hb dX12_findExit_55 rfl (lv_at hl 3 rfl) ?_
          refine va_get (D := D) (ci := 12) (v := .ref (a 13)) (C := RX12) (T := TX12) (N := 69) hx hb hts (fun _ h => List.mem_cons_of_mem _ (List.mem_append_right _ h)) hown hK hP 0 rfl rfl 13 (by decide) (hts (.fieldLink RX12 37 "TalePlayModel" "isSaid" "[Z") (by decide +kernel)) (fun _ h9 => h9) rfl dX12_findExit_56 ?_
          refine lv_iload hx hb dX12_findExit_59 (lv_at hl 0 rfl) ?_
          refine va_zald hx hb hK hP 10 9 rfl rfl (vp_in_iff.mpr (by have h9 : y111_5.toInt = y111_5.toInt := rfl; omega)) dX12_findExit_61 ?_
          refine lv_topi (fun x134 ex134 => ?_)
          have rx134 : 0 ≤ x134.toInt ∧ x134.toInt ≤ 1 := by rw [ex134]; exact hI.2 13 _
          refine lv_if_eq (tgt := 104) hx hb dX12_findExit_62 (by decide) (fun c135 => ?_) (fun c135 => ?_)
          · have f135 := (ti_eq (a := x134.toInt) (b := 0) rfl (by decide)).mp c135
            refine lv_aload_n hx hb dX12_findExit_104 rfl (lv_at hl 3 rfl) ?_
            refine va_get (D := D) (ci := 12) (v := .ref (a 13)) (C := RX12) (T := TX12) (N := 69) hx hb hts (fun _ h => List.mem_cons_of_mem _ (List.mem_append_right _ h)) hown hK hP 0 rfl rfl 13 (by decide) (hts (.fieldLink RX12 37 "TalePlayModel" "isSaid" "[Z") (by decide +kernel)) (fun _ h9 => h9) rfl dX12_findExit_105 ?_
            refine lv_iload hx hb dX12_findExit_108 (lv_at hl 0 rfl) ?_
            refine va_zald hx hb hK hP 10 9 rfl rfl (vp_in_iff.mpr (by have h9 : y111_5.toInt = y111_5.toInt := rfl; omega)) dX12_findExit_110 ?_
            refine lv_topi (fun x136 ex136 => ?_)
            have rx136 : 0 ≤ x136.toInt ∧ x136.toInt ≤ 1 := by rw [ex136]; exact hI.2 13 _
            refine lv_if_eq (tgt := 158) hx hb dX12_findExit_111 (by decide) (fun c137 => ?_) (fun c137 => ?_)
            · have f137 := (ti_eq (a := x136.toInt) (b := 0) rfl (by decide)).mp c137
              obtain ⟨x138, ex138⟩ : ∃ y : Int32, y = y111_5 + 1 := ⟨_, rfl⟩
              have tx138 := ti_add (a := y111_5.toInt) (b := 1) ex138 rfl (by decide) (by omega) (by omega)
              refine lv_iinc (v := x138) (lv' := [(5, .int x138), (4, .int y111_4), (3, .int x110), (0, .ref o), (1, .int r1), (2, .int d1)]) hx hb dX12_findExit_158 hl (k := 0) rfl (by rw [ex138]; rfl) (by decide) rfl (fun ls hl => ?_)
              refine lv_goto (tgt := 46) hx hb dX12_findExit_161 (by decide) ?_
              exact ih i111 q111 c111 d111 x138 y111_4 hI hfi hfc (by have h85 : x138.toInt = (y111_5.toInt + 1) := tx138; have h83 : x110.toInt = (d1.toInt + 1) := tx110; omega) (by have h85 : x138.toInt = (y111_5.toInt + 1) := tx138; have h83 : x110.toInt = (d1.toInt + 1) := tx110; omega) (by have h85 : x138.toInt = (y111_5.toInt + 1) := tx138; have h83 : x110.toInt = (d1.toInt + 1) := tx110; omega) _ _ _ hP hD hS (lv_sub hl [0, 1, 2, 3, 4, 5] rfl)
            · have f137 := mt (ti_eq (a := x136.toInt) (b := 0) rfl (by decide)).mpr c137
              refine lv_aload_n hx hb dX12_findExit_114 rfl (lv_at hl 3 rfl) ?_
              refine va_get (D := D) (ci := 12) (v := .ref (a 9)) (C := RX12) (T := TX12) (N := 69) hx hb hts (fun _ h => List.mem_cons_of_mem _ (List.mem_append_right _ h)) hown hK hP 0 rfl rfl 9 (by decide) (hts (.fieldLink RX12 25 "TalePlayModel" "form" "[I") (by decide +kernel)) (fun _ h9 => h9) rfl dX12_findExit_115 ?_
              refine lv_iload hx hb dX12_findExit_118 (lv_at hl 0 rfl) ?_
              refine va_iald hx hb hK hP 6 5 rfl rfl (vp_in_iff.mpr (by have h9 : y111_5.toInt = y111_5.toInt := rfl; omega)) dX12_findExit_120 ?_
              refine lv_topi (fun x139 ex139 => ?_)
              have rx139 : 0 ≤ x139.toInt ∧ x139.toInt ≤ 7 := by rw [ex139]; exact hI.2 9 _
              refine lv_iconst (v := 5) hx hb dX12_findExit_121 (by decide) ?_
              refine lv_icmp_ne (tgt := 158) hx hb dX12_findExit_122 (by decide) (fun c140 => ?_) (fun c140 => ?_)
              · have f140 := mt (ti_eq (a := x139.toInt) (b := 5) rfl (by decide)).mpr c140
                obtain ⟨x141, ex141⟩ : ∃ y : Int32, y = y111_5 + 1 := ⟨_, rfl⟩
                have tx141 := ti_add (a := y111_5.toInt) (b := 1) ex141 rfl (by decide) (by omega) (by omega)
                refine lv_iinc (v := x141) (lv' := [(5, .int x141), (4, .int y111_4), (3, .int x110), (0, .ref o), (1, .int r1), (2, .int d1)]) hx hb dX12_findExit_158 hl (k := 0) rfl (by rw [ex141]; rfl) (by decide) rfl (fun ls hl => ?_)
                refine lv_goto (tgt := 46) hx hb dX12_findExit_161 (by decide) ?_
                exact ih i111 q111 c111 d111 x141 y111_4 hI hfi hfc (by have h85 : x141.toInt = (y111_5.toInt + 1) := tx141; have h83 : x110.toInt = (d1.toInt + 1) := tx110; omega) (by have h85 : x141.toInt = (y111_5.toInt + 1) := tx141; have h83 : x110.toInt = (d1.toInt + 1) := tx110; omega) (by have h85 : x141.toInt = (y111_5.toInt + 1) := tx141; have h83 : x110.toInt = (d1.toInt + 1) := tx110; omega) _ _ _ hP hD hS (lv_sub hl [0, 1, 2, 3, 4, 5] rfl)
              · have f140 := (ti_eq (a := x139.toInt) (b := 5) rfl (by decide)).mp c140
                refine lv_aload_n hx hb dX12_findExit_125 rfl (lv_at hl 3 rfl) ?_
                refine va_get (D := D) (ci := 12) (v := .ref (a 11)) (C := RX12) (T := TX12) (N := 69) hx hb hts (fun _ h => List.mem_cons_of_mem _ (List.mem_append_right _ h)) hown hK hP 0 rfl rfl 11 (by decide) (hts (.fieldLink RX12 31 "TalePlayModel" "middle" "[I") (by decide +kernel)) (fun _ h9 => h9) rfl dX12_findExit_126 ?_
                refine lv_iload hx hb dX12_findExit_129 (lv_at hl 0 rfl) ?_
                refine va_iald hx hb hK hP 8 7 rfl rfl (vp_in_iff.mpr (by have h9 : y111_5.toInt = y111_5.toInt := rfl; omega)) dX12_findExit_131 ?_
                refine lv_topi (fun x142 ex142 => ?_)
                have rx142 : 0 ≤ x142.toInt ∧ x142.toInt ≤ 29 := by rw [ex142]; exact hI.2 11 _
                refine lv_iload_n hx hb dX12_findExit_132 rfl (lv_at hl 4 rfl) ?_
                refine lv_icmp_ne (tgt := 158) hx hb dX12_findExit_133 (by decide) (fun c143 => ?_) (fun c143 => ?_)
                · have f143 := mt (ti_eq (a := x142.toInt) (b := r1.toInt) rfl rfl).mpr c143
                  obtain ⟨x144, ex144⟩ : ∃ y : Int32, y = y111_5 + 1 := ⟨_, rfl⟩
                  have tx144 := ti_add (a := y111_5.toInt) (b := 1) ex144 rfl (by decide) (by omega) (by omega)
                  refine lv_iinc (v := x144) (lv' := [(5, .int x144), (4, .int y111_4), (3, .int x110), (0, .ref o), (1, .int r1), (2, .int d1)]) hx hb dX12_findExit_158 hl (k := 0) rfl (by rw [ex144]; rfl) (by decide) rfl (fun ls hl => ?_)
                  refine lv_goto (tgt := 46) hx hb dX12_findExit_161 (by decide) ?_
                  exact ih i111 q111 c111 d111 x144 y111_4 hI hfi hfc (by have h85 : x144.toInt = (y111_5.toInt + 1) := tx144; have h83 : x110.toInt = (d1.toInt + 1) := tx110; omega) (by have h85 : x144.toInt = (y111_5.toInt + 1) := tx144; have h83 : x110.toInt = (d1.toInt + 1) := tx110; omega) (by have h85 : x144.toInt = (y111_5.toInt + 1) := tx144; have h83 : x110.toInt = (d1.toInt + 1) := tx110; omega) _ _ _ hP hD hS (lv_sub hl [0, 1, 2, 3, 4, 5] rfl)
                · have f143 := (ti_eq (a := x142.toInt) (b := r1.toInt) rfl rfl).mp c143
                  refine lv_aload_n hx hb dX12_findExit_136 rfl (lv_at hl 3 rfl) ?_
                  refine va_get (D := D) (ci := 12) (v := .ref (a 12)) (C := RX12) (T := TX12) (N := 69) hx hb hts (fun _ h => List.mem_cons_of_mem _ (List.mem_append_right _ h)) hown hK hP 0 rfl rfl 12 (by decide) (hts (.fieldLink RX12 34 "TalePlayModel" "right" "[I") (by decide +kernel)) (fun _ h9 => h9) rfl dX12_findExit_137 ?_
                  refine lv_iload hx hb dX12_findExit_140 (lv_at hl 0 rfl) ?_
                  refine va_iald hx hb hK hP 9 8 rfl rfl (vp_in_iff.mpr (by have h9 : y111_5.toInt = y111_5.toInt := rfl; omega)) dX12_findExit_142 ?_
                  refine lv_topi (fun x145 ex145 => ?_)
                  have rx145 : 0 ≤ x145.toInt ∧ x145.toInt ≤ 9 := by rw [ex145]; exact hI.2 12 _
                  refine lv_iload_n hx hb dX12_findExit_143 rfl (lv_at hl 2 rfl) ?_
                  refine lv_icmp_ne (tgt := 158) hx hb dX12_findExit_144 (by decide) (fun c146 => ?_) (fun c146 => ?_)
                  · have f146 := mt (ti_eq (a := x145.toInt) (b := (d1.toInt + 1)) rfl tx110).mpr c146
                    obtain ⟨x147, ex147⟩ : ∃ y : Int32, y = y111_5 + 1 := ⟨_, rfl⟩
                    have tx147 := ti_add (a := y111_5.toInt) (b := 1) ex147 rfl (by decide) (by omega) (by omega)
                    refine lv_iinc (v := x147) (lv' := [(5, .int x147), (4, .int y111_4), (3, .int x110), (0, .ref o), (1, .int r1), (2, .int d1)]) hx hb dX12_findExit_158 hl (k := 0) rfl (by rw [ex147]; rfl) (by decide) rfl (fun ls hl => ?_)
                    refine lv_goto (tgt := 46) hx hb dX12_findExit_161 (by decide) ?_
                    exact ih i111 q111 c111 d111 x147 y111_4 hI hfi hfc (by have h85 : x147.toInt = (y111_5.toInt + 1) := tx147; have h83 : x110.toInt = (d1.toInt + 1) := tx110; omega) (by have h85 : x147.toInt = (y111_5.toInt + 1) := tx147; have h83 : x110.toInt = (d1.toInt + 1) := tx110; omega) (by have h85 : x147.toInt = (y111_5.toInt + 1) := tx147; have h83 : x110.toInt = (d1.toInt + 1) := tx110; omega) _ _ _ hP hD hS (lv_sub hl [0, 1, 2, 3, 4, 5] rfl)
                  · have f146 := (ti_eq (a := x145.toInt) (b := (d1.toInt + 1)) rfl tx110).mp c146
                    refine lv_iload hx hb dX12_findExit_147 (lv_at hl 1 rfl) ?_
                    refine lv_bipush (v := (-9)) hx hb dX12_findExit_149 (by decide) ?_
                    refine lv_icmp_ne (tgt := 158) hx hb dX12_findExit_151 (by decide) (fun c148 => ?_) (fun c148 => ?_)
                    · have f148 := mt (ti_eq (a := y111_4.toInt) (b := (-9)) rfl (by decide)).mpr c148
                      obtain ⟨x149, ex149⟩ : ∃ y : Int32, y = y111_5 + 1 := ⟨_, rfl⟩
                      have tx149 := ti_add (a := y111_5.toInt) (b := 1) ex149 rfl (by decide) (by omega) (by omega)
                      refine lv_iinc (v := x149) (lv' := [(5, .int x149), (4, .int y111_4), (3, .int x110), (0, .ref o), (1, .int r1), (2, .int d1)]) hx hb dX12_findExit_158 hl (k := 0) rfl (by rw [ex149]; rfl) (by decide) rfl (fun ls hl => ?_)
                      refine lv_goto (tgt := 46) hx hb dX12_findExit_161 (by decide) ?_
                      exact ih i111 q111 c111 d111 x149 y111_4 hI hfi hfc (by have h85 : x149.toInt = (y111_5.toInt + 1) := tx149; have h83 : x110.toInt = (d1.toInt + 1) := tx110; omega) (by have h85 : x149.toInt = (y111_5.toInt + 1) := tx149; have h83 : x110.toInt = (d1.toInt + 1) := tx110; omega) (by have h85 : x149.toInt = (y111_5.toInt + 1) := tx149; have h83 : x110.toInt = (d1.toInt + 1) := tx110; omega) _ _ _ hP hD hS (lv_sub hl [0, 1, 2, 3, 4, 5] rfl)
                    · have f148 := (ti_eq (a := y111_4.toInt) (b := (-9)) rfl (by decide)).mp c148
                      refine lv_iload hx hb dX12_findExit_154 (lv_at hl 0 rfl) ?_
                      refine lv_istore (lv' := [(4, .int y111_5), (5, .int y111_5), (3, .int x110), (0, .ref o), (1, .int r1), (2, .int d1)]) hx hb dX12_findExit_156 hl (by decide) rfl (fun ls hl => ?_)
                      obtain ⟨x150, ex150⟩ : ∃ y : Int32, y = y111_5 + 1 := ⟨_, rfl⟩
                      have tx150 := ti_add (a := y111_5.toInt) (b := 1) ex150 rfl (by decide) (by omega) (by omega)
                      refine lv_iinc (v := x150) (lv' := [(5, .int x150), (4, .int y111_5), (3, .int x110), (0, .ref o), (1, .int r1), (2, .int d1)]) hx hb dX12_findExit_158 hl (k := 1) rfl (by rw [ex150]; rfl) (by decide) rfl (fun ls hl => ?_)
                      refine lv_goto (tgt := 46) hx hb dX12_findExit_161 (by decide) ?_
                      exact ih i111 q111 c111 d111 x150 y111_5 hI hfi hfc (by have h85 : x150.toInt = (y111_5.toInt + 1) := tx150; have h83 : x110.toInt = (d1.toInt + 1) := tx110; omega) (by have h85 : x150.toInt = (y111_5.toInt + 1) := tx150; have h83 : x110.toInt = (d1.toInt + 1) := tx110; omega) (by have h85 : x150.toInt = (y111_5.toInt + 1) := tx150; have h83 : x110.toInt = (d1.toInt + 1) := tx110; omega) _ _ _ hP hD hS (lv_sub hl [0, 1, 2, 3, 4, 5] rfl)
          · have f135 := mt (ti_eq (a := x134.toInt) (b := 0) rfl (by decide)).mpr c135
            refine lv_aload_n hx hb dX12_findExit_65 rfl (lv_at hl 3 rfl) ?_
            refine va_get (D := D) (ci := 12) (v := .ref (a 9)) (C := RX12) (T := TX12) (N := 69) hx hb hts (fun _ h => List.mem_cons_of_mem _ (List.mem_append_right _ h)) hown hK hP 0 rfl rfl 9 (by decide) (hts (.fieldLink RX12 25 "TalePlayModel" "form" "[I") (by decide +kernel)) (fun _ h9 => h9) rfl dX12_findExit_66 ?_
            refine lv_iload hx hb dX12_findExit_69 (lv_at hl 0 rfl) ?_
            refine va_iald hx hb hK hP 6 5 rfl rfl (vp_in_iff.mpr (by have h9 : y111_5.toInt = y111_5.toInt := rfl; omega)) dX12_findExit_71 ?_
            refine lv_topi (fun x151 ex151 => ?_)
            have rx151 : 0 ≤ x151.toInt ∧ x151.toInt ≤ 7 := by rw [ex151]; exact hI.2 9 _
            refine lv_iconst (v := 5) hx hb dX12_findExit_72 (by decide) ?_
            refine lv_icmp_ne (tgt := 104) hx hb dX12_findExit_73 (by decide) (fun c152 => ?_) (fun c152 => ?_)
            · have f152 := mt (ti_eq (a := x151.toInt) (b := 5) rfl (by decide)).mpr c152
              refine lv_aload_n hx hb dX12_findExit_104 rfl (lv_at hl 3 rfl) ?_
              refine va_get (D := D) (ci := 12) (v := .ref (a 13)) (C := RX12) (T := TX12) (N := 69) hx hb hts (fun _ h => List.mem_cons_of_mem _ (List.mem_append_right _ h)) hown hK hP 0 rfl rfl 13 (by decide) (hts (.fieldLink RX12 37 "TalePlayModel" "isSaid" "[Z") (by decide +kernel)) (fun _ h9 => h9) rfl dX12_findExit_105 ?_
              refine lv_iload hx hb dX12_findExit_108 (lv_at hl 0 rfl) ?_
              refine va_zald hx hb hK hP 10 9 rfl rfl (vp_in_iff.mpr (by have h9 : y111_5.toInt = y111_5.toInt := rfl; omega)) dX12_findExit_110 ?_
              refine lv_topi (fun x153 ex153 => ?_)
              have rx153 : 0 ≤ x153.toInt ∧ x153.toInt ≤ 1 := by rw [ex153]; exact hI.2 13 _
              refine lv_if_eq (tgt := 158) hx hb dX12_findExit_111 (by decide) (fun c154 => ?_) (fun c154 => ?_)
              · have f154 := (ti_eq (a := x153.toInt) (b := 0) rfl (by decide)).mp c154
                obtain ⟨x155, ex155⟩ : ∃ y : Int32, y = y111_5 + 1 := ⟨_, rfl⟩
                have tx155 := ti_add (a := y111_5.toInt) (b := 1) ex155 rfl (by decide) (by omega) (by omega)
                refine lv_iinc (v := x155) (lv' := [(5, .int x155), (4, .int y111_4), (3, .int x110), (0, .ref o), (1, .int r1), (2, .int d1)]) hx hb dX12_findExit_158 hl (k := 0) rfl (by rw [ex155]; rfl) (by decide) rfl (fun ls hl => ?_)
                refine lv_goto (tgt := 46) hx hb dX12_findExit_161 (by decide) ?_
                exact ih i111 q111 c111 d111 x155 y111_4 hI hfi hfc (by have h85 : x155.toInt = (y111_5.toInt + 1) := tx155; have h83 : x110.toInt = (d1.toInt + 1) := tx110; omega) (by have h85 : x155.toInt = (y111_5.toInt + 1) := tx155; have h83 : x110.toInt = (d1.toInt + 1) := tx110; omega) (by have h85 : x155.toInt = (y111_5.toInt + 1) := tx155; have h83 : x110.toInt = (d1.toInt + 1) := tx110; omega) _ _ _ hP hD hS (lv_sub hl [0, 1, 2, 3, 4, 5] rfl)
              · have f154 := mt (ti_eq (a := x153.toInt) (b := 0) rfl (by decide)).mpr c154
                refine lv_aload_n hx hb dX12_findExit_114 rfl (lv_at hl 3 rfl) ?_
                refine va_get (D := D) (ci := 12) (v := .ref (a 9)) (C := RX12) (T := TX12) (N := 69) hx hb hts (fun _ h => List.mem_cons_of_mem _ (List.mem_append_right _ h)) hown hK hP 0 rfl rfl 9 (by decide) (hts (.fieldLink RX12 25 "TalePlayModel" "form" "[I") (by decide +kernel)) (fun _ h9 => h9) rfl dX12_findExit_115 ?_
                refine lv_iload hx hb dX12_findExit_118 (lv_at hl 0 rfl) ?_
                refine va_iald hx hb hK hP 6 5 rfl rfl (vp_in_iff.mpr (by have h9 : y111_5.toInt = y111_5.toInt := rfl; omega)) dX12_findExit_120 ?_
                refine lv_topi (fun x156 ex156 => ?_)
                have rx156 : 0 ≤ x156.toInt ∧ x156.toInt ≤ 7 := by rw [ex156]; exact hI.2 9 _
                refine lv_iconst (v := 5) hx hb dX12_findExit_121 (by decide) ?_
                refine lv_icmp_ne (tgt := 158) hx hb dX12_findExit_122 (by decide) (fun c157 => ?_) (fun c157 => ?_)
                · have f157 := mt (ti_eq (a := x156.toInt) (b := 5) rfl (by decide)).mpr c157
                  obtain ⟨x158, ex158⟩ : ∃ y : Int32, y = y111_5 + 1 := ⟨_, rfl⟩
                  have tx158 := ti_add (a := y111_5.toInt) (b := 1) ex158 rfl (by decide) (by omega) (by omega)
                  refine lv_iinc (v := x158) (lv' := [(5, .int x158), (4, .int y111_4), (3, .int x110), (0, .ref o), (1, .int r1), (2, .int d1)]) hx hb dX12_findExit_158 hl (k := 0) rfl (by rw [ex158]; rfl) (by decide) rfl (fun ls hl => ?_)
                  refine lv_goto (tgt := 46) hx hb dX12_findExit_161 (by decide) ?_
                  exact ih i111 q111 c111 d111 x158 y111_4 hI hfi hfc (by have h85 : x158.toInt = (y111_5.toInt + 1) := tx158; have h83 : x110.toInt = (d1.toInt + 1) := tx110; omega) (by have h85 : x158.toInt = (y111_5.toInt + 1) := tx158; have h83 : x110.toInt = (d1.toInt + 1) := tx110; omega) (by have h85 : x158.toInt = (y111_5.toInt + 1) := tx158; have h83 : x110.toInt = (d1.toInt + 1) := tx110; omega) _ _ _ hP hD hS (lv_sub hl [0, 1, 2, 3, 4, 5] rfl)
                · have f157 := (ti_eq (a := x156.toInt) (b := 5) rfl (by decide)).mp c157
                  refine lv_aload_n hx hb dX12_findExit_125 rfl (lv_at hl 3 rfl) ?_
                  refine va_get (D := D) (ci := 12) (v := .ref (a 11)) (C := RX12) (T := TX12) (N := 69) hx hb hts (fun _ h => List.mem_cons_of_mem _ (List.mem_append_right _ h)) hown hK hP 0 rfl rfl 11 (by decide) (hts (.fieldLink RX12 31 "TalePlayModel" "middle" "[I") (by decide +kernel)) (fun _ h9 => h9) rfl dX12_findExit_126 ?_
                  refine lv_iload hx hb dX12_findExit_129 (lv_at hl 0 rfl) ?_
                  refine va_iald hx hb hK hP 8 7 rfl rfl (vp_in_iff.mpr (by have h9 : y111_5.toInt = y111_5.toInt := rfl; omega)) dX12_findExit_131 ?_
                  refine lv_topi (fun x159 ex159 => ?_)
                  have rx159 : 0 ≤ x159.toInt ∧ x159.toInt ≤ 29 := by rw [ex159]; exact hI.2 11 _
                  refine lv_iload_n hx hb dX12_findExit_132 rfl (lv_at hl 4 rfl) ?_
                  refine lv_icmp_ne (tgt := 158) hx hb dX12_findExit_133 (by decide) (fun c160 => ?_) (fun c160 => ?_)
                  · have f160 := mt (ti_eq (a := x159.toInt) (b := r1.toInt) rfl rfl).mpr c160
                    obtain ⟨x161, ex161⟩ : ∃ y : Int32, y = y111_5 + 1 := ⟨_, rfl⟩
                    have tx161 := ti_add (a := y111_5.toInt) (b := 1) ex161 rfl (by decide) (by omega) (by omega)
                    refine lv_iinc (v := x161) (lv' := [(5, .int x161), (4, .int y111_4), (3, .int x110), (0, .ref o), (1, .int r1), (2, .int d1)]) hx hb dX12_findExit_158 hl (k := 0) rfl (by rw [ex161]; rfl) (by decide) rfl (fun ls hl => ?_)
                    refine lv_goto (tgt := 46) hx hb dX12_findExit_161 (by decide) ?_
                    exact ih i111 q111 c111 d111 x161 y111_4 hI hfi hfc (by have h85 : x161.toInt = (y111_5.toInt + 1) := tx161; have h83 : x110.toInt = (d1.toInt + 1) := tx110; omega) (by have h85 : x161.toInt = (y111_5.toInt + 1) := tx161; have h83 : x110.toInt = (d1.toInt + 1) := tx110; omega) (by have h85 : x161.toInt = (y111_5.toInt + 1) := tx161; have h83 : x110.toInt = (d1.toInt + 1) := tx110; omega) _ _ _ hP hD hS (lv_sub hl [0, 1, 2, 3, 4, 5] rfl)
                  · have f160 := (ti_eq (a := x159.toInt) (b := r1.toInt) rfl rfl).mp c160
                    refine lv_aload_n hx hb dX12_findExit_136 rfl (lv_at hl 3 rfl) ?_
                    refine va_get (D := D) (ci := 12) (v := .ref (a 12)) (C := RX12) (T := TX12) (N := 69) hx hb hts (fun _ h => List.mem_cons_of_mem _ (List.mem_append_right _ h)) hown hK hP 0 rfl rfl 12 (by decide) (hts (.fieldLink RX12 34 "TalePlayModel" "right" "[I") (by decide +kernel)) (fun _ h9 => h9) rfl dX12_findExit_137 ?_
                    refine lv_iload hx hb dX12_findExit_140 (lv_at hl 0 rfl) ?_
                    refine va_iald hx hb hK hP 9 8 rfl rfl (vp_in_iff.mpr (by have h9 : y111_5.toInt = y111_5.toInt := rfl; omega)) dX12_findExit_142 ?_
                    refine lv_topi (fun x162 ex162 => ?_)
                    have rx162 : 0 ≤ x162.toInt ∧ x162.toInt ≤ 9 := by rw [ex162]; exact hI.2 12 _
                    refine lv_iload_n hx hb dX12_findExit_143 rfl (lv_at hl 2 rfl) ?_
                    refine lv_icmp_ne (tgt := 158) hx hb dX12_findExit_144 (by decide) (fun c163 => ?_) (fun c163 => ?_)
                    · have f163 := mt (ti_eq (a := x162.toInt) (b := (d1.toInt + 1)) rfl tx110).mpr c163
                      obtain ⟨x164, ex164⟩ : ∃ y : Int32, y = y111_5 + 1 := ⟨_, rfl⟩
                      have tx164 := ti_add (a := y111_5.toInt) (b := 1) ex164 rfl (by decide) (by omega) (by omega)
                      refine lv_iinc (v := x164) (lv' := [(5, .int x164), (4, .int y111_4), (3, .int x110), (0, .ref o), (1, .int r1), (2, .int d1)]) hx hb dX12_findExit_158 hl (k := 0) rfl (by rw [ex164]; rfl) (by decide) rfl (fun ls hl => ?_)
                      refine lv_goto (tgt := 46) hx hb dX12_findExit_161 (by decide) ?_
                      exact ih i111 q111 c111 d111 x164 y111_4 hI hfi hfc (by have h85 : x164.toInt = (y111_5.toInt + 1) := tx164; have h83 : x110.toInt = (d1.toInt + 1) := tx110; omega) (by have h85 : x164.toInt = (y111_5.toInt + 1) := tx164; have h83 : x110.toInt = (d1.toInt + 1) := tx110; omega) (by have h85 : x164.toInt = (y111_5.toInt + 1) := tx164; have h83 : x110.toInt = (d1.toInt + 1) := tx110; omega) _ _ _ hP hD hS (lv_sub hl [0, 1, 2, 3, 4, 5] rfl)
                    · have f163 := (ti_eq (a := x162.toInt) (b := (d1.toInt + 1)) rfl tx110).mp c163
                      refine lv_iload hx hb dX12_findExit_147 (lv_at hl 1 rfl) ?_
                      refine lv_bipush (v := (-9)) hx hb dX12_findExit_149 (by decide) ?_
                      refine lv_icmp_ne (tgt := 158) hx hb dX12_findExit_151 (by decide) (fun c165 => ?_) (fun c165 => ?_)
                      · have f165 := mt (ti_eq (a := y111_4.toInt) (b := (-9)) rfl (by decide)).mpr c165
                        obtain ⟨x166, ex166⟩ : ∃ y : Int32, y = y111_5 + 1 := ⟨_, rfl⟩
                        have tx166 := ti_add (a := y111_5.toInt) (b := 1) ex166 rfl (by decide) (by omega) (by omega)
                        refine lv_iinc (v := x166) (lv' := [(5, .int x166), (4, .int y111_4), (3, .int x110), (0, .ref o), (1, .int r1), (2, .int d1)]) hx hb dX12_findExit_158 hl (k := 0) rfl (by rw [ex166]; rfl) (by decide) rfl (fun ls hl => ?_)
                        refine lv_goto (tgt := 46) hx hb dX12_findExit_161 (by decide) ?_
                        exact ih i111 q111 c111 d111 x166 y111_4 hI hfi hfc (by have h85 : x166.toInt = (y111_5.toInt + 1) := tx166; have h83 : x110.toInt = (d1.toInt + 1) := tx110; omega) (by have h85 : x166.toInt = (y111_5.toInt + 1) := tx166; have h83 : x110.toInt = (d1.toInt + 1) := tx110; omega) (by have h85 : x166.toInt = (y111_5.toInt + 1) := tx166; have h83 : x110.toInt = (d1.toInt + 1) := tx110; omega) _ _ _ hP hD hS (lv_sub hl [0, 1, 2, 3, 4, 5] rfl)
                      · have f165 := (ti_eq (a := y111_4.toInt) (b := (-9)) rfl (by decide)).mp c165
                        refine lv_iload hx hb dX12_findExit_154 (lv_at hl 0 rfl) ?_
                        refine lv_istore (lv' := [(4, .int y111_5), (5, .int y111_5), (3, .int x110), (0, .ref o), (1, .int r1), (2, .int d1)]) hx hb dX12_findExit_156 hl (by decide) rfl (fun ls hl => ?_)
                        obtain ⟨x167, ex167⟩ : ∃ y : Int32, y = y111_5 + 1 := ⟨_, rfl⟩
                        have tx167 := ti_add (a := y111_5.toInt) (b := 1) ex167 rfl (by decide) (by omega) (by omega)
                        refine lv_iinc (v := x167) (lv' := [(5, .int x167), (4, .int y111_5), (3, .int x110), (0, .ref o), (1, .int r1), (2, .int d1)]) hx hb dX12_findExit_158 hl (k := 1) rfl (by rw [ex167]; rfl) (by decide) rfl (fun ls hl => ?_)
                        refine lv_goto (tgt := 46) hx hb dX12_findExit_161 (by decide) ?_
                        exact ih i111 q111 c111 d111 x167 y111_5 hI hfi hfc (by have h85 : x167.toInt = (y111_5.toInt + 1) := tx167; have h83 : x110.toInt = (d1.toInt + 1) := tx110; omega) (by have h85 : x167.toInt = (y111_5.toInt + 1) := tx167; have h83 : x110.toInt = (d1.toInt + 1) := tx110; omega) (by have h85 : x167.toInt = (y111_5.toInt + 1) := tx167; have h83 : x110.toInt = (d1.toInt + 1) := tx110; omega) _ _ _ hP hD hS (lv_sub hl [0, 1, 2, 3, 4, 5] rfl)
            · have f152 := (ti_eq (a := x151.toInt) (b := 5) rfl (by decide)).mp c152
              refine lv_aload_n hx hb dX12_findExit_76 rfl (lv_at hl 3 rfl) ?_
              refine va_get (D := D) (ci := 12) (v := .ref (a 10)) (C := RX12) (T := TX12) (N := 69) hx hb hts (fun _ h => List.mem_cons_of_mem _ (List.mem_append_right _ h)) hown hK hP 0 rfl rfl 10 (by decide) (hts (.fieldLink RX12 28 "TalePlayModel" "left" "[I") (by decide +kernel)) (fun _ h9 => h9) rfl dX12_findExit_77 ?_
              refine lv_iload hx hb dX12_findExit_80 (lv_at hl 0 rfl) ?_
              refine va_iald hx hb hK hP 7 6 rfl rfl (vp_in_iff.mpr (by have h9 : y111_5.toInt = y111_5.toInt := rfl; omega)) dX12_findExit_82 ?_
              refine lv_topi (fun x168 ex168 => ?_)
              have rx168 : 0 ≤ x168.toInt ∧ x168.toInt ≤ 29 := by rw [ex168]; exact hI.2 10 _
              refine lv_iload_n hx hb dX12_findExit_83 rfl (lv_at hl 4 rfl) ?_
              refine lv_icmp_ne (tgt := 104) hx hb dX12_findExit_84 (by decide) (fun c169 => ?_) (fun c169 => ?_)
              · have f169 := mt (ti_eq (a := x168.toInt) (b := r1.toInt) rfl rfl).mpr c169
                refine lv_aload_n hx hb dX12_findExit_104 rfl (lv_at hl 3 rfl) ?_
                refine va_get (D := D) (ci := 12) (v := .ref (a 13)) (C := RX12) (T := TX12) (N := 69) hx hb hts (fun _ h => List.mem_cons_of_mem _ (List.mem_append_right _ h)) hown hK hP 0 rfl rfl 13 (by decide) (hts (.fieldLink RX12 37 "TalePlayModel" "isSaid" "[Z") (by decide +kernel)) (fun _ h9 => h9) rfl dX12_findExit_105 ?_
                refine lv_iload hx hb dX12_findExit_108 (lv_at hl 0 rfl) ?_
                refine va_zald hx hb hK hP 10 9 rfl rfl (vp_in_iff.mpr (by have h9 : y111_5.toInt = y111_5.toInt := rfl; omega)) dX12_findExit_110 ?_
                refine lv_topi (fun x170 ex170 => ?_)
                have rx170 : 0 ≤ x170.toInt ∧ x170.toInt ≤ 1 := by rw [ex170]; exact hI.2 13 _
                refine lv_if_eq (tgt := 158) hx hb dX12_findExit_111 (by decide) (fun c171 => ?_) (fun c171 => ?_)
                · have f171 := (ti_eq (a := x170.toInt) (b := 0) rfl (by decide)).mp c171
                  obtain ⟨x172, ex172⟩ : ∃ y : Int32, y = y111_5 + 1 := ⟨_, rfl⟩
                  have tx172 := ti_add (a := y111_5.toInt) (b := 1) ex172 rfl (by decide) (by omega) (by omega)
                  refine lv_iinc (v := x172) (lv' := [(5, .int x172), (4, .int y111_4), (3, .int x110), (0, .ref o), (1, .int r1), (2, .int d1)]) hx hb dX12_findExit_158 hl (k := 0) rfl (by rw [ex172]; rfl) (by decide) rfl (fun ls hl => ?_)
                  refine lv_goto (tgt := 46) hx hb dX12_findExit_161 (by decide) ?_
                  exact ih i111 q111 c111 d111 x172 y111_4 hI hfi hfc (by have h85 : x172.toInt = (y111_5.toInt + 1) := tx172; have h83 : x110.toInt = (d1.toInt + 1) := tx110; omega) (by have h85 : x172.toInt = (y111_5.toInt + 1) := tx172; have h83 : x110.toInt = (d1.toInt + 1) := tx110; omega) (by have h85 : x172.toInt = (y111_5.toInt + 1) := tx172; have h83 : x110.toInt = (d1.toInt + 1) := tx110; omega) _ _ _ hP hD hS (lv_sub hl [0, 1, 2, 3, 4, 5] rfl)
                · have f171 := mt (ti_eq (a := x170.toInt) (b := 0) rfl (by decide)).mpr c171
                  refine lv_aload_n hx hb dX12_findExit_114 rfl (lv_at hl 3 rfl) ?_
                  refine va_get (D := D) (ci := 12) (v := .ref (a 9)) (C := RX12) (T := TX12) (N := 69) hx hb hts (fun _ h => List.mem_cons_of_mem _ (List.mem_append_right _ h)) hown hK hP 0 rfl rfl 9 (by decide) (hts (.fieldLink RX12 25 "TalePlayModel" "form" "[I") (by decide +kernel)) (fun _ h9 => h9) rfl dX12_findExit_115 ?_
                  refine lv_iload hx hb dX12_findExit_118 (lv_at hl 0 rfl) ?_
                  refine va_iald hx hb hK hP 6 5 rfl rfl (vp_in_iff.mpr (by have h9 : y111_5.toInt = y111_5.toInt := rfl; omega)) dX12_findExit_120 ?_
                  refine lv_topi (fun x173 ex173 => ?_)
                  have rx173 : 0 ≤ x173.toInt ∧ x173.toInt ≤ 7 := by rw [ex173]; exact hI.2 9 _
                  refine lv_iconst (v := 5) hx hb dX12_findExit_121 (by decide) ?_
                  refine lv_icmp_ne (tgt := 158) hx hb dX12_findExit_122 (by decide) (fun c174 => ?_) (fun c174 => ?_)
                  · have f174 := mt (ti_eq (a := x173.toInt) (b := 5) rfl (by decide)).mpr c174
                    obtain ⟨x175, ex175⟩ : ∃ y : Int32, y = y111_5 + 1 := ⟨_, rfl⟩
                    have tx175 := ti_add (a := y111_5.toInt) (b := 1) ex175 rfl (by decide) (by omega) (by omega)
                    refine lv_iinc (v := x175) (lv' := [(5, .int x175), (4, .int y111_4), (3, .int x110), (0, .ref o), (1, .int r1), (2, .int d1)]) hx hb dX12_findExit_158 hl (k := 0) rfl (by rw [ex175]; rfl) (by decide) rfl (fun ls hl => ?_)
                    refine lv_goto (tgt := 46) hx hb dX12_findExit_161 (by decide) ?_
                    exact ih i111 q111 c111 d111 x175 y111_4 hI hfi hfc (by have h85 : x175.toInt = (y111_5.toInt + 1) := tx175; have h83 : x110.toInt = (d1.toInt + 1) := tx110; omega) (by have h85 : x175.toInt = (y111_5.toInt + 1) := tx175; have h83 : x110.toInt = (d1.toInt + 1) := tx110; omega) (by have h85 : x175.toInt = (y111_5.toInt + 1) := tx175; have h83 : x110.toInt = (d1.toInt + 1) := tx110; omega) _ _ _ hP hD hS (lv_sub hl [0, 1, 2, 3, 4, 5] rfl)
                  · have f174 := (ti_eq (a := x173.toInt) (b := 5) rfl (by decide)).mp c174
                    refine lv_aload_n hx hb dX12_findExit_125 rfl (lv_at hl 3 rfl) ?_
                    refine va_get (D := D) (ci := 12) (v := .ref (a 11)) (C := RX12) (T := TX12) (N := 69) hx hb hts (fun _ h => List.mem_cons_of_mem _ (List.mem_append_right _ h)) hown hK hP 0 rfl rfl 11 (by decide) (hts (.fieldLink RX12 31 "TalePlayModel" "middle" "[I") (by decide +kernel)) (fun _ h9 => h9) rfl dX12_findExit_126 ?_
                    refine lv_iload hx hb dX12_findExit_129 (lv_at hl 0 rfl) ?_
                    refine va_iald hx hb hK hP 8 7 rfl rfl (vp_in_iff.mpr (by have h9 : y111_5.toInt = y111_5.toInt := rfl; omega)) dX12_findExit_131 ?_
                    refine lv_topi (fun x176 ex176 => ?_)
                    have rx176 : 0 ≤ x176.toInt ∧ x176.toInt ≤ 29 := by rw [ex176]; exact hI.2 11 _
                    refine lv_iload_n hx hb dX12_findExit_132 rfl (lv_at hl 4 rfl) ?_
                    refine lv_icmp_ne (tgt := 158) hx hb dX12_findExit_133 (by decide) (fun c177 => ?_) (fun c177 => ?_)
                    · have f177 := mt (ti_eq (a := x176.toInt) (b := r1.toInt) rfl rfl).mpr c177
                      obtain ⟨x178, ex178⟩ : ∃ y : Int32, y = y111_5 + 1 := ⟨_, rfl⟩
                      have tx178 := ti_add (a := y111_5.toInt) (b := 1) ex178 rfl (by decide) (by omega) (by omega)
                      refine lv_iinc (v := x178) (lv' := [(5, .int x178), (4, .int y111_4), (3, .int x110), (0, .ref o), (1, .int r1), (2, .int d1)]) hx hb dX12_findExit_158 hl (k := 0) rfl (by rw [ex178]; rfl) (by decide) rfl (fun ls hl => ?_)
                      refine lv_goto (tgt := 46) hx hb dX12_findExit_161 (by decide) ?_
                      exact ih i111 q111 c111 d111 x178 y111_4 hI hfi hfc (by have h85 : x178.toInt = (y111_5.toInt + 1) := tx178; have h83 : x110.toInt = (d1.toInt + 1) := tx110; omega) (by have h85 : x178.toInt = (y111_5.toInt + 1) := tx178; have h83 : x110.toInt = (d1.toInt + 1) := tx110; omega) (by have h85 : x178.toInt = (y111_5.toInt + 1) := tx178; have h83 : x110.toInt = (d1.toInt + 1) := tx110; omega) _ _ _ hP hD hS (lv_sub hl [0, 1, 2, 3, 4, 5] rfl)
                    · have f177 := (ti_eq (a := x176.toInt) (b := r1.toInt) rfl rfl).mp c177
                      refine lv_aload_n hx hb dX12_findExit_136 rfl (lv_at hl 3 rfl) ?_
                      refine va_get (D := D) (ci := 12) (v := .ref (a 12)) (C := RX12) (T := TX12) (N := 69) hx hb hts (fun _ h => List.mem_cons_of_mem _ (List.mem_append_right _ h)) hown hK hP 0 rfl rfl 12 (by decide) (hts (.fieldLink RX12 34 "TalePlayModel" "right" "[I") (by decide +kernel)) (fun _ h9 => h9) rfl dX12_findExit_137 ?_
                      refine lv_iload hx hb dX12_findExit_140 (lv_at hl 0 rfl) ?_
                      refine va_iald hx hb hK hP 9 8 rfl rfl (vp_in_iff.mpr (by have h9 : y111_5.toInt = y111_5.toInt := rfl; omega)) dX12_findExit_142 ?_
                      refine lv_topi (fun x179 ex179 => ?_)
                      have rx179 : 0 ≤ x179.toInt ∧ x179.toInt ≤ 9 := by rw [ex179]; exact hI.2 12 _
                      refine lv_iload_n hx hb dX12_findExit_143 rfl (lv_at hl 2 rfl) ?_
                      refine lv_icmp_ne (tgt := 158) hx hb dX12_findExit_144 (by decide) (fun c180 => ?_) (fun c180 => ?_)
                      · have f180 := mt (ti_eq (a := x179.toInt) (b := (d1.toInt + 1)) rfl tx110).mpr c180
                        obtain ⟨x181, ex181⟩ : ∃ y : Int32, y = y111_5 + 1 := ⟨_, rfl⟩
                        have tx181 := ti_add (a := y111_5.toInt) (b := 1) ex181 rfl (by decide) (by omega) (by omega)
                        refine lv_iinc (v := x181) (lv' := [(5, .int x181), (4, .int y111_4), (3, .int x110), (0, .ref o), (1, .int r1), (2, .int d1)]) hx hb dX12_findExit_158 hl (k := 0) rfl (by rw [ex181]; rfl) (by decide) rfl (fun ls hl => ?_)
                        refine lv_goto (tgt := 46) hx hb dX12_findExit_161 (by decide) ?_
                        exact ih i111 q111 c111 d111 x181 y111_4 hI hfi hfc (by have h85 : x181.toInt = (y111_5.toInt + 1) := tx181; have h83 : x110.toInt = (d1.toInt + 1) := tx110; omega) (by have h85 : x181.toInt = (y111_5.toInt + 1) := tx181; have h83 : x110.toInt = (d1.toInt + 1) := tx110; omega) (by have h85 : x181.toInt = (y111_5.toInt + 1) := tx181; have h83 : x110.toInt = (d1.toInt + 1) := tx110; omega) _ _ _ hP hD hS (lv_sub hl [0, 1, 2, 3, 4, 5] rfl)
                      · have f180 := (ti_eq (a := x179.toInt) (b := (d1.toInt + 1)) rfl tx110).mp c180
                        refine lv_iload hx hb dX12_findExit_147 (lv_at hl 1 rfl) ?_
                        refine lv_bipush (v := (-9)) hx hb dX12_findExit_149 (by decide) ?_
                        refine lv_icmp_ne (tgt := 158) hx hb dX12_findExit_151 (by decide) (fun c182 => ?_) (fun c182 => ?_)
                        · have f182 := mt (ti_eq (a := y111_4.toInt) (b := (-9)) rfl (by decide)).mpr c182
                          obtain ⟨x183, ex183⟩ : ∃ y : Int32, y = y111_5 + 1 := ⟨_, rfl⟩
                          have tx183 := ti_add (a := y111_5.toInt) (b := 1) ex183 rfl (by decide) (by omega) (by omega)
                          refine lv_iinc (v := x183) (lv' := [(5, .int x183), (4, .int y111_4), (3, .int x110), (0, .ref o), (1, .int r1), (2, .int d1)]) hx hb dX12_findExit_158 hl (k := 0) rfl (by rw [ex183]; rfl) (by decide) rfl (fun ls hl => ?_)
                          refine lv_goto (tgt := 46) hx hb dX12_findExit_161 (by decide) ?_
                          exact ih i111 q111 c111 d111 x183 y111_4 hI hfi hfc (by have h85 : x183.toInt = (y111_5.toInt + 1) := tx183; have h83 : x110.toInt = (d1.toInt + 1) := tx110; omega) (by have h85 : x183.toInt = (y111_5.toInt + 1) := tx183; have h83 : x110.toInt = (d1.toInt + 1) := tx110; omega) (by have h85 : x183.toInt = (y111_5.toInt + 1) := tx183; have h83 : x110.toInt = (d1.toInt + 1) := tx110; omega) _ _ _ hP hD hS (lv_sub hl [0, 1, 2, 3, 4, 5] rfl)
                        · have f182 := (ti_eq (a := y111_4.toInt) (b := (-9)) rfl (by decide)).mp c182
                          refine lv_iload hx hb dX12_findExit_154 (lv_at hl 0 rfl) ?_
                          refine lv_istore (lv' := [(4, .int y111_5), (5, .int y111_5), (3, .int x110), (0, .ref o), (1, .int r1), (2, .int d1)]) hx hb dX12_findExit_156 hl (by decide) rfl (fun ls hl => ?_)
                          obtain ⟨x184, ex184⟩ : ∃ y : Int32, y = y111_5 + 1 := ⟨_, rfl⟩
                          have tx184 := ti_add (a := y111_5.toInt) (b := 1) ex184 rfl (by decide) (by omega) (by omega)
                          refine lv_iinc (v := x184) (lv' := [(5, .int x184), (4, .int y111_5), (3, .int x110), (0, .ref o), (1, .int r1), (2, .int d1)]) hx hb dX12_findExit_158 hl (k := 1) rfl (by rw [ex184]; rfl) (by decide) rfl (fun ls hl => ?_)
                          refine lv_goto (tgt := 46) hx hb dX12_findExit_161 (by decide) ?_
                          exact ih i111 q111 c111 d111 x184 y111_5 hI hfi hfc (by have h85 : x184.toInt = (y111_5.toInt + 1) := tx184; have h83 : x110.toInt = (d1.toInt + 1) := tx110; omega) (by have h85 : x184.toInt = (y111_5.toInt + 1) := tx184; have h83 : x110.toInt = (d1.toInt + 1) := tx110; omega) (by have h85 : x184.toInt = (y111_5.toInt + 1) := tx184; have h83 : x110.toInt = (d1.toInt + 1) := tx110; omega) _ _ _ hP hD hS (lv_sub hl [0, 1, 2, 3, 4, 5] rfl)
              · have f169 := (ti_eq (a := x168.toInt) (b := r1.toInt) rfl rfl).mp c169
                refine lv_aload_n hx hb dX12_findExit_87 rfl (lv_at hl 3 rfl) ?_
                refine va_get (D := D) (ci := 12) (v := .ref (a 12)) (C := RX12) (T := TX12) (N := 69) hx hb hts (fun _ h => List.mem_cons_of_mem _ (List.mem_append_right _ h)) hown hK hP 0 rfl rfl 12 (by decide) (hts (.fieldLink RX12 34 "TalePlayModel" "right" "[I") (by decide +kernel)) (fun _ h9 => h9) rfl dX12_findExit_88 ?_
                refine lv_iload hx hb dX12_findExit_91 (lv_at hl 0 rfl) ?_
                refine va_iald hx hb hK hP 9 8 rfl rfl (vp_in_iff.mpr (by have h9 : y111_5.toInt = y111_5.toInt := rfl; omega)) dX12_findExit_93 ?_
                refine lv_topi (fun x185 ex185 => ?_)
                have rx185 : 0 ≤ x185.toInt ∧ x185.toInt ≤ 9 := by rw [ex185]; exact hI.2 12 _
                refine lv_iload_n hx hb dX12_findExit_94 rfl (lv_at hl 5 rfl) ?_
                refine lv_icmp_ne (tgt := 104) hx hb dX12_findExit_95 (by decide) (fun c186 => ?_) (fun c186 => ?_)
                · have f186 := mt (ti_eq (a := x185.toInt) (b := d1.toInt) rfl rfl).mpr c186
                  refine lv_aload_n hx hb dX12_findExit_104 rfl (lv_at hl 3 rfl) ?_
                  refine va_get (D := D) (ci := 12) (v := .ref (a 13)) (C := RX12) (T := TX12) (N := 69) hx hb hts (fun _ h => List.mem_cons_of_mem _ (List.mem_append_right _ h)) hown hK hP 0 rfl rfl 13 (by decide) (hts (.fieldLink RX12 37 "TalePlayModel" "isSaid" "[Z") (by decide +kernel)) (fun _ h9 => h9) rfl dX12_findExit_105 ?_
                  refine lv_iload hx hb dX12_findExit_108 (lv_at hl 0 rfl) ?_
                  refine va_zald hx hb hK hP 10 9 rfl rfl (vp_in_iff.mpr (by have h9 : y111_5.toInt = y111_5.toInt := rfl; omega)) dX12_findExit_110 ?_
                  refine lv_topi (fun x187 ex187 => ?_)
                  have rx187 : 0 ≤ x187.toInt ∧ x187.toInt ≤ 1 := by rw [ex187]; exact hI.2 13 _
                  refine lv_if_eq (tgt := 158) hx hb dX12_findExit_111 (by decide) (fun c188 => ?_) (fun c188 => ?_)
                  · have f188 := (ti_eq (a := x187.toInt) (b := 0) rfl (by decide)).mp c188
                    obtain ⟨x189, ex189⟩ : ∃ y : Int32, y = y111_5 + 1 := ⟨_, rfl⟩
                    have tx189 := ti_add (a := y111_5.toInt) (b := 1) ex189 rfl (by decide) (by omega) (by omega)
                    refine lv_iinc (v := x189) (lv' := [(5, .int x189), (4, .int y111_4), (3, .int x110), (0, .ref o), (1, .int r1), (2, .int d1)]) hx hb dX12_findExit_158 hl (k := 0) rfl (by rw [ex189]; rfl) (by decide) rfl (fun ls hl => ?_)
                    refine lv_goto (tgt := 46) hx hb dX12_findExit_161 (by decide) ?_
                    exact ih i111 q111 c111 d111 x189 y111_4 hI hfi hfc (by have h85 : x189.toInt = (y111_5.toInt + 1) := tx189; have h83 : x110.toInt = (d1.toInt + 1) := tx110; omega) (by have h85 : x189.toInt = (y111_5.toInt + 1) := tx189; have h83 : x110.toInt = (d1.toInt + 1) := tx110; omega) (by have h85 : x189.toInt = (y111_5.toInt + 1) := tx189; have h83 : x110.toInt = (d1.toInt + 1) := tx110; omega) _ _ _ hP hD hS (lv_sub hl [0, 1, 2, 3, 4, 5] rfl)
                  · have f188 := mt (ti_eq (a := x187.toInt) (b := 0) rfl (by decide)).mpr c188
                    refine lv_aload_n hx hb dX12_findExit_114 rfl (lv_at hl 3 rfl) ?_
                    refine va_get (D := D) (ci := 12) (v := .ref (a 9)) (C := RX12) (T := TX12) (N := 69) hx hb hts (fun _ h => List.mem_cons_of_mem _ (List.mem_append_right _ h)) hown hK hP 0 rfl rfl 9 (by decide) (hts (.fieldLink RX12 25 "TalePlayModel" "form" "[I") (by decide +kernel)) (fun _ h9 => h9) rfl dX12_findExit_115 ?_
                    refine lv_iload hx hb dX12_findExit_118 (lv_at hl 0 rfl) ?_
                    refine va_iald hx hb hK hP 6 5 rfl rfl (vp_in_iff.mpr (by have h9 : y111_5.toInt = y111_5.toInt := rfl; omega)) dX12_findExit_120 ?_
                    refine lv_topi (fun x190 ex190 => ?_)
                    have rx190 : 0 ≤ x190.toInt ∧ x190.toInt ≤ 7 := by rw [ex190]; exact hI.2 9 _
                    refine lv_iconst (v := 5) hx hb dX12_findExit_121 (by decide) ?_
                    refine lv_icmp_ne (tgt := 158) hx hb dX12_findExit_122 (by decide) (fun c191 => ?_) (fun c191 => ?_)
                    · have f191 := mt (ti_eq (a := x190.toInt) (b := 5) rfl (by decide)).mpr c191
                      obtain ⟨x192, ex192⟩ : ∃ y : Int32, y = y111_5 + 1 := ⟨_, rfl⟩
                      have tx192 := ti_add (a := y111_5.toInt) (b := 1) ex192 rfl (by decide) (by omega) (by omega)
                      refine lv_iinc (v := x192) (lv' := [(5, .int x192), (4, .int y111_4), (3, .int x110), (0, .ref o), (1, .int r1), (2, .int d1)]) hx hb dX12_findExit_158 hl (k := 0) rfl (by rw [ex192]; rfl) (by decide) rfl (fun ls hl => ?_)
                      refine lv_goto (tgt := 46) hx hb dX12_findExit_161 (by decide) ?_
                      exact ih i111 q111 c111 d111 x192 y111_4 hI hfi hfc (by have h85 : x192.toInt = (y111_5.toInt + 1) := tx192; have h83 : x110.toInt = (d1.toInt + 1) := tx110; omega) (by have h85 : x192.toInt = (y111_5.toInt + 1) := tx192; have h83 : x110.toInt = (d1.toInt + 1) := tx110; omega) (by have h85 : x192.toInt = (y111_5.toInt + 1) := tx192; have h83 : x110.toInt = (d1.toInt + 1) := tx110; omega) _ _ _ hP hD hS (lv_sub hl [0, 1, 2, 3, 4, 5] rfl)
                    · have f191 := (ti_eq (a := x190.toInt) (b := 5) rfl (by decide)).mp c191
                      refine lv_aload_n hx hb dX12_findExit_125 rfl (lv_at hl 3 rfl) ?_
                      refine va_get (D := D) (ci := 12) (v := .ref (a 11)) (C := RX12) (T := TX12) (N := 69) hx hb hts (fun _ h => List.mem_cons_of_mem _ (List.mem_append_right _ h)) hown hK hP 0 rfl rfl 11 (by decide) (hts (.fieldLink RX12 31 "TalePlayModel" "middle" "[I") (by decide +kernel)) (fun _ h9 => h9) rfl dX12_findExit_126 ?_
                      refine lv_iload hx hb dX12_findExit_129 (lv_at hl 0 rfl) ?_
                      refine va_iald hx hb hK hP 8 7 rfl rfl (vp_in_iff.mpr (by have h9 : y111_5.toInt = y111_5.toInt := rfl; omega)) dX12_findExit_131 ?_
                      refine lv_topi (fun x193 ex193 => ?_)
                      have rx193 : 0 ≤ x193.toInt ∧ x193.toInt ≤ 29 := by rw [ex193]; exact hI.2 11 _
                      refine lv_iload_n hx hb dX12_findExit_132 rfl (lv_at hl 4 rfl) ?_
                      refine lv_icmp_ne (tgt := 158) hx hb dX12_findExit_133 (by decide) (fun c194 => ?_) (fun c194 => ?_)
                      · have f194 := mt (ti_eq (a := x193.toInt) (b := r1.toInt) rfl rfl).mpr c194
                        obtain ⟨x195, ex195⟩ : ∃ y : Int32, y = y111_5 + 1 := ⟨_, rfl⟩
                        have tx195 := ti_add (a := y111_5.toInt) (b := 1) ex195 rfl (by decide) (by omega) (by omega)
                        refine lv_iinc (v := x195) (lv' := [(5, .int x195), (4, .int y111_4), (3, .int x110), (0, .ref o), (1, .int r1), (2, .int d1)]) hx hb dX12_findExit_158 hl (k := 0) rfl (by rw [ex195]; rfl) (by decide) rfl (fun ls hl => ?_)
                        refine lv_goto (tgt := 46) hx hb dX12_findExit_161 (by decide) ?_
                        exact ih i111 q111 c111 d111 x195 y111_4 hI hfi hfc (by have h85 : x195.toInt = (y111_5.toInt + 1) := tx195; have h83 : x110.toInt = (d1.toInt + 1) := tx110; omega) (by have h85 : x195.toInt = (y111_5.toInt + 1) := tx195; have h83 : x110.toInt = (d1.toInt + 1) := tx110; omega) (by have h85 : x195.toInt = (y111_5.toInt + 1) := tx195; have h83 : x110.toInt = (d1.toInt + 1) := tx110; omega) _ _ _ hP hD hS (lv_sub hl [0, 1, 2, 3, 4, 5] rfl)
                      · have f194 := (ti_eq (a := x193.toInt) (b := r1.toInt) rfl rfl).mp c194
                        refine lv_aload_n hx hb dX12_findExit_136 rfl (lv_at hl 3 rfl) ?_
                        refine va_get (D := D) (ci := 12) (v := .ref (a 12)) (C := RX12) (T := TX12) (N := 69) hx hb hts (fun _ h => List.mem_cons_of_mem _ (List.mem_append_right _ h)) hown hK hP 0 rfl rfl 12 (by decide) (hts (.fieldLink RX12 34 "TalePlayModel" "right" "[I") (by decide +kernel)) (fun _ h9 => h9) rfl dX12_findExit_137 ?_
                        refine lv_iload hx hb dX12_findExit_140 (lv_at hl 0 rfl) ?_
                        refine va_iald hx hb hK hP 9 8 rfl rfl (vp_in_iff.mpr (by have h9 : y111_5.toInt = y111_5.toInt := rfl; omega)) dX12_findExit_142 ?_
                        refine lv_topi (fun x196 ex196 => ?_)
                        have rx196 : 0 ≤ x196.toInt ∧ x196.toInt ≤ 9 := by rw [ex196]; exact hI.2 12 _
                        refine lv_iload_n hx hb dX12_findExit_143 rfl (lv_at hl 2 rfl) ?_
                        refine lv_icmp_ne (tgt := 158) hx hb dX12_findExit_144 (by decide) (fun c197 => ?_) (fun c197 => ?_)
                        · have f197 := mt (ti_eq (a := x196.toInt) (b := (d1.toInt + 1)) rfl tx110).mpr c197
                          obtain ⟨x198, ex198⟩ : ∃ y : Int32, y = y111_5 + 1 := ⟨_, rfl⟩
                          have tx198 := ti_add (a := y111_5.toInt) (b := 1) ex198 rfl (by decide) (by omega) (by omega)
                          refine lv_iinc (v := x198) (lv' := [(5, .int x198), (4, .int y111_4), (3, .int x110), (0, .ref o), (1, .int r1), (2, .int d1)]) hx hb dX12_findExit_158 hl (k := 0) rfl (by rw [ex198]; rfl) (by decide) rfl (fun ls hl => ?_)
                          refine lv_goto (tgt := 46) hx hb dX12_findExit_161 (by decide) ?_
                          exact ih i111 q111 c111 d111 x198 y111_4 hI hfi hfc (by have h85 : x198.toInt = (y111_5.toInt + 1) := tx198; have h83 : x110.toInt = (d1.toInt + 1) := tx110; omega) (by have h85 : x198.toInt = (y111_5.toInt + 1) := tx198; have h83 : x110.toInt = (d1.toInt + 1) := tx110; omega) (by have h85 : x198.toInt = (y111_5.toInt + 1) := tx198; have h83 : x110.toInt = (d1.toInt + 1) := tx110; omega) _ _ _ hP hD hS (lv_sub hl [0, 1, 2, 3, 4, 5] rfl)
                        · have f197 := (ti_eq (a := x196.toInt) (b := (d1.toInt + 1)) rfl tx110).mp c197
                          refine lv_iload hx hb dX12_findExit_147 (lv_at hl 1 rfl) ?_
                          refine lv_bipush (v := (-9)) hx hb dX12_findExit_149 (by decide) ?_
                          refine lv_icmp_ne (tgt := 158) hx hb dX12_findExit_151 (by decide) (fun c199 => ?_) (fun c199 => ?_)
                          · have f199 := mt (ti_eq (a := y111_4.toInt) (b := (-9)) rfl (by decide)).mpr c199
                            obtain ⟨x200, ex200⟩ : ∃ y : Int32, y = y111_5 + 1 := ⟨_, rfl⟩
                            have tx200 := ti_add (a := y111_5.toInt) (b := 1) ex200 rfl (by decide) (by omega) (by omega)
                            refine lv_iinc (v := x200) (lv' := [(5, .int x200), (4, .int y111_4), (3, .int x110), (0, .ref o), (1, .int r1), (2, .int d1)]) hx hb dX12_findExit_158 hl (k := 0) rfl (by rw [ex200]; rfl) (by decide) rfl (fun ls hl => ?_)
                            refine lv_goto (tgt := 46) hx hb dX12_findExit_161 (by decide) ?_
                            exact ih i111 q111 c111 d111 x200 y111_4 hI hfi hfc (by have h85 : x200.toInt = (y111_5.toInt + 1) := tx200; have h83 : x110.toInt = (d1.toInt + 1) := tx110; omega) (by have h85 : x200.toInt = (y111_5.toInt + 1) := tx200; have h83 : x110.toInt = (d1.toInt + 1) := tx110; omega) (by have h85 : x200.toInt = (y111_5.toInt + 1) := tx200; have h83 : x110.toInt = (d1.toInt + 1) := tx110; omega) _ _ _ hP hD hS (lv_sub hl [0, 1, 2, 3, 4, 5] rfl)
                          · have f199 := (ti_eq (a := y111_4.toInt) (b := (-9)) rfl (by decide)).mp c199
                            refine lv_iload hx hb dX12_findExit_154 (lv_at hl 0 rfl) ?_
                            refine lv_istore (lv' := [(4, .int y111_5), (5, .int y111_5), (3, .int x110), (0, .ref o), (1, .int r1), (2, .int d1)]) hx hb dX12_findExit_156 hl (by decide) rfl (fun ls hl => ?_)
                            obtain ⟨x201, ex201⟩ : ∃ y : Int32, y = y111_5 + 1 := ⟨_, rfl⟩
                            have tx201 := ti_add (a := y111_5.toInt) (b := 1) ex201 rfl (by decide) (by omega) (by omega)
                            refine lv_iinc (v := x201) (lv' := [(5, .int x201), (4, .int y111_5), (3, .int x110), (0, .ref o), (1, .int r1), (2, .int d1)]) hx hb dX12_findExit_158 hl (k := 1) rfl (by rw [ex201]; rfl) (by decide) rfl (fun ls hl => ?_)
                            refine lv_goto (tgt := 46) hx hb dX12_findExit_161 (by decide) ?_
                            exact ih i111 q111 c111 d111 x201 y111_5 hI hfi hfc (by have h85 : x201.toInt = (y111_5.toInt + 1) := tx201; have h83 : x110.toInt = (d1.toInt + 1) := tx110; omega) (by have h85 : x201.toInt = (y111_5.toInt + 1) := tx201; have h83 : x110.toInt = (d1.toInt + 1) := tx110; omega) (by have h85 : x201.toInt = (y111_5.toInt + 1) := tx201; have h83 : x110.toInt = (d1.toInt + 1) := tx110; omega) _ _ _ hP hD hS (lv_sub hl [0, 1, 2, 3, 4, 5] rfl)
                · have f186 := (ti_eq (a := x185.toInt) (b := d1.toInt) rfl rfl).mp c186
                  refine lv_aload_n hx hb dX12_findExit_98 rfl (lv_at hl 3 rfl) ?_
                  refine lv_iload hx hb dX12_findExit_99 (lv_at hl 0 rfl) ?_
                  refine va_put (D := D) (ci := 12) (v := .int y111_5) (ty := .int) (C := RX12) (T := TX12) (N := 69) hx hb hts (fun _ h => List.mem_cons_of_mem _ (List.mem_append_right _ h)) tyX12 tyX12_ok nmX12 hown hK hP hD hS 0 rfl rfl 18 (by decide) (hts (.fieldLink RX12 269 "TalePlayModel" "bySentence" "I") (by decide +kernel)) (fun _ h9 => h9) rfl (by decide +kernel) rfl rfl (Nat.le_of_ble_eq_true rfl) dX12_findExit_101 (fun H locs hP hD hS => ?_)
                  have hI := mInv_i hI (k := 18) (v := y111_5) (show (y111_5 : Int32).toInt = -9 ∨ (0 ≤ (y111_5 : Int32).toInt ∧ (y111_5 : Int32).toInt ≤ 199) from by omega)
                  have hfi := fr_i hfi (k := 18) (v := y111_5) (by decide)
                  have hP : va_P D vwCl (mW o a t (upd i111 18 y111_5) q111 c111 d111) H := hP
                  have hD : va_D A (mW o a t (upd i111 18 y111_5) q111 c111 d111) := hD
                  refine lv_aload_n hx hb dX12_findExit_104 rfl (lv_at hl 3 rfl) ?_
                  refine va_get (D := D) (ci := 12) (v := .ref (a 13)) (C := RX12) (T := TX12) (N := 69) hx hb hts (fun _ h => List.mem_cons_of_mem _ (List.mem_append_right _ h)) hown hK hP 0 rfl rfl 13 (by decide) (hts (.fieldLink RX12 37 "TalePlayModel" "isSaid" "[Z") (by decide +kernel)) (fun _ h9 => h9) rfl dX12_findExit_105 ?_
                  refine lv_iload hx hb dX12_findExit_108 (lv_at hl 0 rfl) ?_
                  refine va_zald hx hb hK hP 10 9 rfl rfl (vp_in_iff.mpr (by have h9 : y111_5.toInt = y111_5.toInt := rfl; omega)) dX12_findExit_110 ?_
                  refine lv_topi (fun x202 ex202 => ?_)
                  have rx202 : 0 ≤ x202.toInt ∧ x202.toInt ≤ 1 := by rw [ex202]; exact hI.2 13 _
                  refine lv_if_eq (tgt := 158) hx hb dX12_findExit_111 (by decide) (fun c203 => ?_) (fun c203 => ?_)
                  · have f203 := (ti_eq (a := x202.toInt) (b := 0) rfl (by decide)).mp c203
                    obtain ⟨x204, ex204⟩ : ∃ y : Int32, y = y111_5 + 1 := ⟨_, rfl⟩
                    have tx204 := ti_add (a := y111_5.toInt) (b := 1) ex204 rfl (by decide) (by omega) (by omega)
                    refine lv_iinc (v := x204) (lv' := [(5, .int x204), (4, .int y111_4), (3, .int x110), (0, .ref o), (1, .int r1), (2, .int d1)]) hx hb dX12_findExit_158 hl (k := 0) rfl (by rw [ex204]; rfl) (by decide) rfl (fun ls hl => ?_)
                    refine lv_goto (tgt := 46) hx hb dX12_findExit_161 (by decide) ?_
                    exact ih (upd i111 18 y111_5) q111 c111 d111 x204 y111_4 hI hfi hfc (by have h85 : x204.toInt = (y111_5.toInt + 1) := tx204; have h83 : x110.toInt = (d1.toInt + 1) := tx110; omega) (by have h85 : x204.toInt = (y111_5.toInt + 1) := tx204; have h83 : x110.toInt = (d1.toInt + 1) := tx110; omega) (by have h85 : x204.toInt = (y111_5.toInt + 1) := tx204; have h83 : x110.toInt = (d1.toInt + 1) := tx110; omega) _ _ _ hP hD hS (lv_sub hl [0, 1, 2, 3, 4, 5] rfl)
                  · have f203 := mt (ti_eq (a := x202.toInt) (b := 0) rfl (by decide)).mpr c203
                    refine lv_aload_n hx hb dX12_findExit_114 rfl (lv_at hl 3 rfl) ?_
                    refine va_get (D := D) (ci := 12) (v := .ref (a 9)) (C := RX12) (T := TX12) (N := 69) hx hb hts (fun _ h => List.mem_cons_of_mem _ (List.mem_append_right _ h)) hown hK hP 0 rfl rfl 9 (by decide) (hts (.fieldLink RX12 25 "TalePlayModel" "form" "[I") (by decide +kernel)) (fun _ h9 => h9) rfl dX12_findExit_115 ?_
                    refine lv_iload hx hb dX12_findExit_118 (lv_at hl 0 rfl) ?_
                    refine va_iald hx hb hK hP 6 5 rfl rfl (vp_in_iff.mpr (by have h9 : y111_5.toInt = y111_5.toInt := rfl; omega)) dX12_findExit_120 ?_
                    refine lv_topi (fun x205 ex205 => ?_)
                    have rx205 : 0 ≤ x205.toInt ∧ x205.toInt ≤ 7 := by rw [ex205]; exact hI.2 9 _
                    refine lv_iconst (v := 5) hx hb dX12_findExit_121 (by decide) ?_
                    refine lv_icmp_ne (tgt := 158) hx hb dX12_findExit_122 (by decide) (fun c206 => ?_) (fun c206 => ?_)
                    · have f206 := mt (ti_eq (a := x205.toInt) (b := 5) rfl (by decide)).mpr c206
                      obtain ⟨x207, ex207⟩ : ∃ y : Int32, y = y111_5 + 1 := ⟨_, rfl⟩
                      have tx207 := ti_add (a := y111_5.toInt) (b := 1) ex207 rfl (by decide) (by omega) (by omega)
                      refine lv_iinc (v := x207) (lv' := [(5, .int x207), (4, .int y111_4), (3, .int x110), (0, .ref o), (1, .int r1), (2, .int d1)]) hx hb dX12_findExit_158 hl (k := 0) rfl (by rw [ex207]; rfl) (by decide) rfl (fun ls hl => ?_)
                      refine lv_goto (tgt := 46) hx hb dX12_findExit_161 (by decide) ?_
                      exact ih (upd i111 18 y111_5) q111 c111 d111 x207 y111_4 hI hfi hfc (by have h85 : x207.toInt = (y111_5.toInt + 1) := tx207; have h83 : x110.toInt = (d1.toInt + 1) := tx110; omega) (by have h85 : x207.toInt = (y111_5.toInt + 1) := tx207; have h83 : x110.toInt = (d1.toInt + 1) := tx110; omega) (by have h85 : x207.toInt = (y111_5.toInt + 1) := tx207; have h83 : x110.toInt = (d1.toInt + 1) := tx110; omega) _ _ _ hP hD hS (lv_sub hl [0, 1, 2, 3, 4, 5] rfl)
                    · have f206 := (ti_eq (a := x205.toInt) (b := 5) rfl (by decide)).mp c206
                      refine lv_aload_n hx hb dX12_findExit_125 rfl (lv_at hl 3 rfl) ?_
                      refine va_get (D := D) (ci := 12) (v := .ref (a 11)) (C := RX12) (T := TX12) (N := 69) hx hb hts (fun _ h => List.mem_cons_of_mem _ (List.mem_append_right _ h)) hown hK hP 0 rfl rfl 11 (by decide) (hts (.fieldLink RX12 31 "TalePlayModel" "middle" "[I") (by decide +kernel)) (fun _ h9 => h9) rfl dX12_findExit_126 ?_
                      refine lv_iload hx hb dX12_findExit_129 (lv_at hl 0 rfl) ?_
                      refine va_iald hx hb hK hP 8 7 rfl rfl (vp_in_iff.mpr (by have h9 : y111_5.toInt = y111_5.toInt := rfl; omega)) dX12_findExit_131 ?_
                      refine lv_topi (fun x208 ex208 => ?_)
                      have rx208 : 0 ≤ x208.toInt ∧ x208.toInt ≤ 29 := by rw [ex208]; exact hI.2 11 _
                      refine lv_iload_n hx hb dX12_findExit_132 rfl (lv_at hl 4 rfl) ?_
                      refine lv_icmp_ne (tgt := 158) hx hb dX12_findExit_133 (by decide) (fun c209 => ?_) (fun c209 => ?_)
                      · have f209 := mt (ti_eq (a := x208.toInt) (b := r1.toInt) rfl rfl).mpr c209
                        obtain ⟨x210, ex210⟩ : ∃ y : Int32, y = y111_5 + 1 := ⟨_, rfl⟩
                        have tx210 := ti_add (a := y111_5.toInt) (b := 1) ex210 rfl (by decide) (by omega) (by omega)
                        refine lv_iinc (v := x210) (lv' := [(5, .int x210), (4, .int y111_4), (3, .int x110), (0, .ref o), (1, .int r1), (2, .int d1)]) hx hb dX12_findExit_158 hl (k := 0) rfl (by rw [ex210]; rfl) (by decide) rfl (fun ls hl => ?_)
                        refine lv_goto (tgt := 46) hx hb dX12_findExit_161 (by decide) ?_
                        exact ih (upd i111 18 y111_5) q111 c111 d111 x210 y111_4 hI hfi hfc (by have h85 : x210.toInt = (y111_5.toInt + 1) := tx210; have h83 : x110.toInt = (d1.toInt + 1) := tx110; omega) (by have h85 : x210.toInt = (y111_5.toInt + 1) := tx210; have h83 : x110.toInt = (d1.toInt + 1) := tx110; omega) (by have h85 : x210.toInt = (y111_5.toInt + 1) := tx210; have h83 : x110.toInt = (d1.toInt + 1) := tx110; omega) _ _ _ hP hD hS (lv_sub hl [0, 1, 2, 3, 4, 5] rfl)
                      · have f209 := (ti_eq (a := x208.toInt) (b := r1.toInt) rfl rfl).mp c209
                        refine lv_aload_n hx hb dX12_findExit_136 rfl (lv_at hl 3 rfl) ?_
                        refine va_get (D := D) (ci := 12) (v := .ref (a 12)) (C := RX12) (T := TX12) (N := 69) hx hb hts (fun _ h => List.mem_cons_of_mem _ (List.mem_append_right _ h)) hown hK hP 0 rfl rfl 12 (by decide) (hts (.fieldLink RX12 34 "TalePlayModel" "right" "[I") (by decide +kernel)) (fun _ h9 => h9) rfl dX12_findExit_137 ?_
                        refine lv_iload hx hb dX12_findExit_140 (lv_at hl 0 rfl) ?_
                        refine va_iald hx hb hK hP 9 8 rfl rfl (vp_in_iff.mpr (by have h9 : y111_5.toInt = y111_5.toInt := rfl; omega)) dX12_findExit_142 ?_
                        refine lv_topi (fun x211 ex211 => ?_)
                        have rx211 : 0 ≤ x211.toInt ∧ x211.toInt ≤ 9 := by rw [ex211]; exact hI.2 12 _
                        refine lv_iload_n hx hb dX12_findExit_143 rfl (lv_at hl 2 rfl) ?_
                        refine lv_icmp_ne (tgt := 158) hx hb dX12_findExit_144 (by decide) (fun c212 => ?_) (fun c212 => ?_)
                        · have f212 := mt (ti_eq (a := x211.toInt) (b := (d1.toInt + 1)) rfl tx110).mpr c212
                          obtain ⟨x213, ex213⟩ : ∃ y : Int32, y = y111_5 + 1 := ⟨_, rfl⟩
                          have tx213 := ti_add (a := y111_5.toInt) (b := 1) ex213 rfl (by decide) (by omega) (by omega)
                          refine lv_iinc (v := x213) (lv' := [(5, .int x213), (4, .int y111_4), (3, .int x110), (0, .ref o), (1, .int r1), (2, .int d1)]) hx hb dX12_findExit_158 hl (k := 0) rfl (by rw [ex213]; rfl) (by decide) rfl (fun ls hl => ?_)
                          refine lv_goto (tgt := 46) hx hb dX12_findExit_161 (by decide) ?_
                          exact ih (upd i111 18 y111_5) q111 c111 d111 x213 y111_4 hI hfi hfc (by have h85 : x213.toInt = (y111_5.toInt + 1) := tx213; have h83 : x110.toInt = (d1.toInt + 1) := tx110; omega) (by have h85 : x213.toInt = (y111_5.toInt + 1) := tx213; have h83 : x110.toInt = (d1.toInt + 1) := tx110; omega) (by have h85 : x213.toInt = (y111_5.toInt + 1) := tx213; have h83 : x110.toInt = (d1.toInt + 1) := tx110; omega) _ _ _ hP hD hS (lv_sub hl [0, 1, 2, 3, 4, 5] rfl)
                        · have f212 := (ti_eq (a := x211.toInt) (b := (d1.toInt + 1)) rfl tx110).mp c212
                          refine lv_iload hx hb dX12_findExit_147 (lv_at hl 1 rfl) ?_
                          refine lv_bipush (v := (-9)) hx hb dX12_findExit_149 (by decide) ?_
                          refine lv_icmp_ne (tgt := 158) hx hb dX12_findExit_151 (by decide) (fun c214 => ?_) (fun c214 => ?_)
                          · have f214 := mt (ti_eq (a := y111_4.toInt) (b := (-9)) rfl (by decide)).mpr c214
                            obtain ⟨x215, ex215⟩ : ∃ y : Int32, y = y111_5 + 1 := ⟨_, rfl⟩
                            have tx215 := ti_add (a := y111_5.toInt) (b := 1) ex215 rfl (by decide) (by omega) (by omega)
                            refine lv_iinc (v := x215) (lv' := [(5, .int x215), (4, .int y111_4), (3, .int x110), (0, .ref o), (1, .int r1), (2, .int d1)]) hx hb dX12_findExit_158 hl (k := 0) rfl (by rw [ex215]; rfl) (by decide) rfl (fun ls hl => ?_)
                            refine lv_goto (tgt := 46) hx hb dX12_findExit_161 (by decide) ?_
                            exact ih (upd i111 18 y111_5) q111 c111 d111 x215 y111_4 hI hfi hfc (by have h85 : x215.toInt = (y111_5.toInt + 1) := tx215; have h83 : x110.toInt = (d1.toInt + 1) := tx110; omega) (by have h85 : x215.toInt = (y111_5.toInt + 1) := tx215; have h83 : x110.toInt = (d1.toInt + 1) := tx110; omega) (by have h85 : x215.toInt = (y111_5.toInt + 1) := tx215; have h83 : x110.toInt = (d1.toInt + 1) := tx110; omega) _ _ _ hP hD hS (lv_sub hl [0, 1, 2, 3, 4, 5] rfl)
                          · have f214 := (ti_eq (a := y111_4.toInt) (b := (-9)) rfl (by decide)).mp c214
                            refine lv_iload hx hb dX12_findExit_154 (lv_at hl 0 rfl) ?_
                            refine lv_istore (lv' := [(4, .int y111_5), (5, .int y111_5), (3, .int x110), (0, .ref o), (1, .int r1), (2, .int d1)]) hx hb dX12_findExit_156 hl (by decide) rfl (fun ls hl => ?_)
                            obtain ⟨x216, ex216⟩ : ∃ y : Int32, y = y111_5 + 1 := ⟨_, rfl⟩
                            have tx216 := ti_add (a := y111_5.toInt) (b := 1) ex216 rfl (by decide) (by omega) (by omega)
                            refine lv_iinc (v := x216) (lv' := [(5, .int x216), (4, .int y111_5), (3, .int x110), (0, .ref o), (1, .int r1), (2, .int d1)]) hx hb dX12_findExit_158 hl (k := 1) rfl (by rw [ex216]; rfl) (by decide) rfl (fun ls hl => ?_)
                            refine lv_goto (tgt := 46) hx hb dX12_findExit_161 (by decide) ?_
                            exact ih (upd i111 18 y111_5) q111 c111 d111 x216 y111_5 hI hfi hfc (by have h85 : x216.toInt = (y111_5.toInt + 1) := tx216; have h83 : x110.toInt = (d1.toInt + 1) := tx110; omega) (by have h85 : x216.toInt = (y111_5.toInt + 1) := tx216; have h83 : x110.toInt = (d1.toInt + 1) := tx110; omega) (by have h85 : x216.toInt = (y111_5.toInt + 1) := tx216; have h83 : x110.toInt = (d1.toInt + 1) := tx110; omega) _ _ _ hP hD hS (lv_sub hl [0, 1, 2, 3, 4, 5] rfl)
    exact lp111 _ (upd (upd (upd (upd i 16 (-9)) 17 (-9)) 18 (-9)) 19 0) q c d (0 : Int32) ((-9) : Int32) hI hfi hfc (by have h616 : ((-9) : Int32).toInt = -9 := (by decide); have h617 : ((-9) : Int32).toInt = -9 := (by decide); have h618 : ((-9) : Int32).toInt = -9 := (by decide); have h619 : (0 : Int32).toInt = 0 := (by decide); have h85 : (0 : Int32).toInt = 0 := (by decide); have h84 : ((-9) : Int32).toInt = -9 := (by decide); have h83 : x110.toInt = (d1.toInt + 1) := tx110; omega) (by have h616 : ((-9) : Int32).toInt = -9 := (by decide); have h617 : ((-9) : Int32).toInt = -9 := (by decide); have h618 : ((-9) : Int32).toInt = -9 := (by decide); have h619 : (0 : Int32).toInt = 0 := (by decide); have h85 : (0 : Int32).toInt = 0 := (by decide); have h84 : ((-9) : Int32).toInt = -9 := (by decide); have h83 : x110.toInt = (d1.toInt + 1) := tx110; omega) (Nat.lt_succ_self _) _ _ _ hP hD hS (lv_sub hl [0, 1, 2, 3, 4, 5] rfl)

def wm_X12_shuts : List Cond := .code yX12_shuts cX12_shuts 3 (some .boolean) :: (([.fieldLink RX12 98 "TalePlayModel" "isBox" "[Z", .fieldLink RX12 56 "TalePlayModel" "nOpen" "[Z", .fieldLink RX12 95 "TalePlayModel" "glass" "[Z"] : List Cond) ++ wsX120)
set_option maxHeartbeats 4000000 in
set_option maxRecDepth 100000 in
theorem s_X12_shuts (l : Launch) (D : va_G) (sz : Nat) (o : Nat) (a : Nat → Nat) (t : Nat → ClassId) (i : Nat → Int32) (q : Int64) (c : Nat → Nat → Int32) (d : Nat → Nat → Int64) (w : Int32) (b1 : Int32) (hI : mInv i c) (hw : 0 ≤ w.toInt ∧ w.toInt ≤ 29) : Met l yX12_shuts wm_X12_shuts ({ frames := 0, cells := 0, slots := 0, locals := 0 }) (va_Pc [.ref o, .int w, .int b1] (pA D sz (mW o a t i q c d) (mT t))) (va_Qi (fun (r : Int32) (_ : Unit) => (0 ≤ r.toInt ∧ r.toInt ≤ 1)) oA (ro sz)) 0 0 (ro sz) := by
  refine Met.ofW (cc := cX12_shuts) (maxL := 3) (ret := (some .boolean)) (by decide) rfl ?_
  intro p e s m args below meth cd s₁ B hml hv
  obtain ⟨rfl, hsz, hP, hK⟩ := hv
  have hx := B.exec
  have hb := B.bytes
  have hr := B.returns
  have hts := atoms_spec (ws := wm_X12_shuts) B.pre
  have hown : s.vm.findClass RX12 = some m.cls := findClass_of_methodNamed B.named
  have hlocks := B.notSynchronized
  subst hsz
  have hA : ∀ q : Nat, s.heap.size ≤ q → ro s.heap.size q := fun _ h => h
  have hS : va_S (ro s.heap.size) s.heap s.heap [] := va_S.rf
  have hl := lv_entry ([.ref o, .int w, .int b1]) (n := 3) (Nat.le_of_ble_eq_true rfl)
  rw [lg_entry_eq]
  generalize (lg_sl ([.ref o, .int w, .int b1]) ++ List.replicate (3 - (lg_sl ([.ref o, .int w, .int b1])).length) Slot.unset).toArray = ls at hl ⊢
  have hl : lv_has ls 3 [(0, .ref o), (1, .int w), (2, .int b1)] := hl
  refine lv_aload_n hx hb dX12_shuts_0 rfl (lv_at hl 0 rfl) ?_
  refine va_get (D := D) (ci := 12) (v := .ref (a 47)) (C := RX12) (T := TX12) (N := 69) hx hb hts (fun _ h => List.mem_cons_of_mem _ (List.mem_append_right _ h)) hown hK hP 0 rfl rfl 47 (by decide) (hts (.fieldLink RX12 98 "TalePlayModel" "isBox" "[Z") (by decide +kernel)) (fun _ h9 => h9) rfl dX12_shuts_1 ?_
  refine lv_iload_n hx hb dX12_shuts_4 rfl (lv_at hl 1 rfl) ?_
  refine va_zald hx hb hK hP 30 29 rfl rfl (vp_in_iff.mpr (by have h9 : w.toInt = w.toInt := rfl; omega)) dX12_shuts_5 ?_
  refine lv_topi (fun x1 ex1 => ?_)
  have rx1 : 0 ≤ x1.toInt ∧ x1.toInt ≤ 1 := by rw [ex1]; exact hI.2 47 _
  refine lv_if_eq (tgt := 35) hx hb dX12_shuts_6 (by decide) (fun c2 => ?_) (fun c2 => ?_)
  · have f2 := (ti_eq (a := x1.toInt) (b := 0) rfl (by decide)).mp c2
    refine lv_iconst (v := 0) hx hb dX12_shuts_35 (by decide) ?_
    exact ro_zret hx hb hr hlocks hS rfl dX12_shuts_36 (show 0 ≤ (0 : Int32).toInt ∧ (0 : Int32).toInt ≤ 1 from by decide)
  · have f2 := mt (ti_eq (a := x1.toInt) (b := 0) rfl (by decide)).mpr c2
    refine lv_aload_n hx hb dX12_shuts_9 rfl (lv_at hl 0 rfl) ?_
    refine va_get (D := D) (ci := 12) (v := .ref (a 25)) (C := RX12) (T := TX12) (N := 69) hx hb hts (fun _ h => List.mem_cons_of_mem _ (List.mem_append_right _ h)) hown hK hP 0 rfl rfl 25 (by decide) (hts (.fieldLink RX12 56 "TalePlayModel" "nOpen" "[Z") (by decide +kernel)) (fun _ h9 => h9) rfl dX12_shuts_10 ?_
    refine lv_iload_n hx hb dX12_shuts_13 rfl (lv_at hl 1 rfl) ?_
    refine va_zald hx hb hK hP 16 15 rfl rfl (vp_in_iff.mpr (by have h9 : w.toInt = w.toInt := rfl; omega)) dX12_shuts_14 ?_
    refine lv_topi (fun x3 ex3 => ?_)
    have rx3 : 0 ≤ x3.toInt ∧ x3.toInt ≤ 1 := by rw [ex3]; exact hI.2 25 _
    refine lv_if_ne (tgt := 35) hx hb dX12_shuts_15 (by decide) (fun c4 => ?_) (fun c4 => ?_)
    · have f4 := mt (ti_eq (a := x3.toInt) (b := 0) rfl (by decide)).mpr c4
      refine lv_iconst (v := 0) hx hb dX12_shuts_35 (by decide) ?_
      exact ro_zret hx hb hr hlocks hS rfl dX12_shuts_36 (show 0 ≤ (0 : Int32).toInt ∧ (0 : Int32).toInt ≤ 1 from by decide)
    · have f4 := (ti_eq (a := x3.toInt) (b := 0) rfl (by decide)).mp c4
      refine lv_iload_n hx hb dX12_shuts_18 rfl (lv_at hl 2 rfl) ?_
      refine lv_if_ne (tgt := 31) hx hb dX12_shuts_19 (by decide) (fun c5 => ?_) (fun c5 => ?_)
      · have f5 := mt (ti_eq (a := b1.toInt) (b := 0) rfl (by decide)).mpr c5
        refine lv_iconst (v := 1) hx hb dX12_shuts_31 (by decide) ?_
        refine lv_goto (tgt := 36) hx hb dX12_shuts_32 (by decide) ?_
        exact ro_zret hx hb hr hlocks hS rfl dX12_shuts_36 (show 0 ≤ (1 : Int32).toInt ∧ (1 : Int32).toInt ≤ 1 from by decide)
      · have f5 := (ti_eq (a := b1.toInt) (b := 0) rfl (by decide)).mp c5
        refine lv_aload_n hx hb dX12_shuts_22 rfl (lv_at hl 0 rfl) ?_
        refine va_get (D := D) (ci := 12) (v := .ref (a 46)) (C := RX12) (T := TX12) (N := 69) hx hb hts (fun _ h => List.mem_cons_of_mem _ (List.mem_append_right _ h)) hown hK hP 0 rfl rfl 46 (by decide) (hts (.fieldLink RX12 95 "TalePlayModel" "glass" "[Z") (by decide +kernel)) (fun _ h9 => h9) rfl dX12_shuts_23 ?_
        refine lv_iload_n hx hb dX12_shuts_26 rfl (lv_at hl 1 rfl) ?_
        refine va_zald hx hb hK hP 29 28 rfl rfl (vp_in_iff.mpr (by have h9 : w.toInt = w.toInt := rfl; omega)) dX12_shuts_27 ?_
        refine lv_topi (fun x6 ex6 => ?_)
        have rx6 : 0 ≤ x6.toInt ∧ x6.toInt ≤ 1 := by rw [ex6]; exact hI.2 46 _
        refine lv_if_ne (tgt := 35) hx hb dX12_shuts_28 (by decide) (fun c7 => ?_) (fun c7 => ?_)
        · have f7 := mt (ti_eq (a := x6.toInt) (b := 0) rfl (by decide)).mpr c7
          refine lv_iconst (v := 0) hx hb dX12_shuts_35 (by decide) ?_
          exact ro_zret hx hb hr hlocks hS rfl dX12_shuts_36 (show 0 ≤ (0 : Int32).toInt ∧ (0 : Int32).toInt ≤ 1 from by decide)
        · have f7 := (ti_eq (a := x6.toInt) (b := 0) rfl (by decide)).mp c7
          refine lv_iconst (v := 1) hx hb dX12_shuts_31 (by decide) ?_
          refine lv_goto (tgt := 36) hx hb dX12_shuts_32 (by decide) ?_
          exact ro_zret hx hb hr hlocks hS rfl dX12_shuts_36 (show 0 ≤ (1 : Int32).toInt ∧ (1 : Int32).toInt ≤ 1 from by decide)

def wm_X12_holds : List Cond := .code yX12_holds cX12_holds 2 (some .boolean) :: (([.fieldLink RX12 50 "TalePlayModel" "nForm" "[I", .fieldLink RX12 53 "TalePlayModel" "nAt" "[I", .fieldLink RX12 155 "TalePlayModel" "player" "I"] : List Cond) ++ wsX120)
set_option maxHeartbeats 4000000 in
set_option maxRecDepth 100000 in
theorem s_X12_holds (l : Launch) (D : va_G) (sz : Nat) (o : Nat) (a : Nat → Nat) (t : Nat → ClassId) (i : Nat → Int32) (q : Int64) (c : Nat → Nat → Int32) (d : Nat → Nat → Int64) (w : Int32) (hI : mInv i c) (hw : 0 ≤ w.toInt ∧ w.toInt ≤ 29) : Met l yX12_holds wm_X12_holds ({ frames := 0, cells := 0, slots := 0, locals := 0 }) (va_Pc [.ref o, .int w] (pA D sz (mW o a t i q c d) (mT t))) (va_Qi (fun (r : Int32) (_ : Unit) => (0 ≤ r.toInt ∧ r.toInt ≤ 1)) oA (ro sz)) 0 0 (ro sz) := by
  refine Met.ofW (cc := cX12_holds) (maxL := 2) (ret := (some .boolean)) (by decide) rfl ?_
  intro p e s m args below meth cd s₁ B hml hv
  obtain ⟨rfl, hsz, hP, hK⟩ := hv
  have hx := B.exec
  have hb := B.bytes
  have hr := B.returns
  have hts := atoms_spec (ws := wm_X12_holds) B.pre
  have hown : s.vm.findClass RX12 = some m.cls := findClass_of_methodNamed B.named
  have hlocks := B.notSynchronized
  subst hsz
  have hA : ∀ q : Nat, s.heap.size ≤ q → ro s.heap.size q := fun _ h => h
  have hS : va_S (ro s.heap.size) s.heap s.heap [] := va_S.rf
  have hl := lv_entry ([.ref o, .int w]) (n := 2) (Nat.le_of_ble_eq_true rfl)
  rw [lg_entry_eq]
  generalize (lg_sl ([.ref o, .int w]) ++ List.replicate (2 - (lg_sl ([.ref o, .int w])).length) Slot.unset).toArray = ls at hl ⊢
  have hl : lv_has ls 2 [(0, .ref o), (1, .int w)] := hl
  refine lv_aload_n hx hb dX12_holds_0 rfl (lv_at hl 0 rfl) ?_
  refine va_get (D := D) (ci := 12) (v := .ref (a 23)) (C := RX12) (T := TX12) (N := 69) hx hb hts (fun _ h => List.mem_cons_of_mem _ (List.mem_append_right _ h)) hown hK hP 0 rfl rfl 23 (by decide) (hts (.fieldLink RX12 50 "TalePlayModel" "nForm" "[I") (by decide +kernel)) (fun _ h9 => h9) rfl dX12_holds_1 ?_
  refine lv_iload_n hx hb dX12_holds_4 rfl (lv_at hl 1 rfl) ?_
  refine va_iald hx hb hK hP 14 13 rfl rfl (vp_in_iff.mpr (by have h9 : w.toInt = w.toInt := rfl; omega)) dX12_holds_5 ?_
  refine lv_topi (fun x1 ex1 => ?_)
  have rx1 : x1.toInt = -9 ∨ (0 ≤ x1.toInt ∧ x1.toInt ≤ 4) := by rw [ex1]; exact hI.2 23 _
  refine lv_iconst (v := 2) hx hb dX12_holds_6 (by decide) ?_
  refine lv_icmp_ne (tgt := 27) hx hb dX12_holds_7 (by decide) (fun c2 => ?_) (fun c2 => ?_)
  · have f2 := mt (ti_eq (a := x1.toInt) (b := 2) rfl (by decide)).mpr c2
    refine lv_iconst (v := 0) hx hb dX12_holds_27 (by decide) ?_
    exact ro_zret hx hb hr hlocks hS rfl dX12_holds_28 (show 0 ≤ (0 : Int32).toInt ∧ (0 : Int32).toInt ≤ 1 from by decide)
  · have f2 := (ti_eq (a := x1.toInt) (b := 2) rfl (by decide)).mp c2
    refine lv_aload_n hx hb dX12_holds_10 rfl (lv_at hl 0 rfl) ?_
    refine va_get (D := D) (ci := 12) (v := .ref (a 24)) (C := RX12) (T := TX12) (N := 69) hx hb hts (fun _ h => List.mem_cons_of_mem _ (List.mem_append_right _ h)) hown hK hP 0 rfl rfl 24 (by decide) (hts (.fieldLink RX12 53 "TalePlayModel" "nAt" "[I") (by decide +kernel)) (fun _ h9 => h9) rfl dX12_holds_11 ?_
    refine lv_iload_n hx hb dX12_holds_14 rfl (lv_at hl 1 rfl) ?_
    refine va_iald hx hb hK hP 15 14 rfl rfl (vp_in_iff.mpr (by have h9 : w.toInt = w.toInt := rfl; omega)) dX12_holds_15 ?_
    refine lv_topi (fun x3 ex3 => ?_)
    have rx3 : x3.toInt = -9 ∨ (0 ≤ x3.toInt ∧ x3.toInt ≤ 29) := by rw [ex3]; exact hI.2 24 _
    refine lv_aload_n hx hb dX12_holds_16 rfl (lv_at hl 0 rfl) ?_
    refine va_get (D := D) (ci := 12) (v := .int (i 22)) (C := RX12) (T := TX12) (N := 69) hx hb hts (fun _ h => List.mem_cons_of_mem _ (List.mem_append_right _ h)) hown hK hP 0 rfl rfl 22 (by decide) (hts (.fieldLink RX12 155 "TalePlayModel" "player" "I") (by decide +kernel)) (fun _ h9 => h9) rfl dX12_holds_17 ?_
    have rb22_i : (i 22).toInt = -9 ∨ (0 ≤ (i 22).toInt ∧ (i 22).toInt ≤ 29) := hI.1 22
    refine lv_icmp_ne (tgt := 27) hx hb dX12_holds_20 (by decide) (fun c4 => ?_) (fun c4 => ?_)
    · have f4 := mt (ti_eq (a := x3.toInt) (b := (i 22).toInt) rfl rfl).mpr c4
      refine lv_iconst (v := 0) hx hb dX12_holds_27 (by decide) ?_
      exact ro_zret hx hb hr hlocks hS rfl dX12_holds_28 (show 0 ≤ (0 : Int32).toInt ∧ (0 : Int32).toInt ≤ 1 from by decide)
    · have f4 := (ti_eq (a := x3.toInt) (b := (i 22).toInt) rfl rfl).mp c4
      refine lv_iconst (v := 1) hx hb dX12_holds_23 (by decide) ?_
      refine lv_goto (tgt := 28) hx hb dX12_holds_24 (by decide) ?_
      exact ro_zret hx hb hr hlocks hS rfl dX12_holds_28 (show 0 ≤ (1 : Int32).toInt ∧ (1 : Int32).toInt ≤ 1 from by decide)

def wm_X12_lying : List Cond := .code yX12_lying cX12_lying 5 (some .int) :: (([.fieldLink RX12 177 "TalePlayModel" "objects" "I", .fieldLink RX12 50 "TalePlayModel" "nForm" "[I", .fieldLink RX12 53 "TalePlayModel" "nAt" "[I"] : List Cond) ++ wsX120)
set_option maxHeartbeats 4000000 in
set_option maxRecDepth 100000 in
theorem s_X12_lying (l : Launch) (D : va_G) (sz : Nat) (o : Nat) (a : Nat → Nat) (t : Nat → ClassId) (i : Nat → Int32) (q : Int64) (c : Nat → Nat → Int32) (d : Nat → Nat → Int64) (f : Int32) (w : Int32) (hI : mInv i c) : Met l yX12_lying wm_X12_lying ({ frames := 0, cells := 0, slots := 0, locals := 0 }) (va_Pc [.ref o, .int f, .int w] (pA D sz (mW o a t i q c d) (mT t))) (va_Qi (fun (r : Int32) (_ : Unit) => (0 ≤ r.toInt ∧ r.toInt ≤ 30)) oA (ro sz)) 0 0 (ro sz) := by
  refine Met.ofW (cc := cX12_lying) (maxL := 5) (ret := (some .int)) (by decide) rfl ?_
  intro p e s m args below meth cd s₁ B hml hv
  obtain ⟨rfl, hsz, hP, hK⟩ := hv
  have hx := B.exec
  have hb := B.bytes
  have hr := B.returns
  have hts := atoms_spec (ws := wm_X12_lying) B.pre
  have hown : s.vm.findClass RX12 = some m.cls := findClass_of_methodNamed B.named
  have hlocks := B.notSynchronized
  subst hsz
  have hA : ∀ q : Nat, s.heap.size ≤ q → ro s.heap.size q := fun _ h => h
  have hS : va_S (ro s.heap.size) s.heap s.heap [] := va_S.rf
  have hl := lv_entry ([.ref o, .int f, .int w]) (n := 5) (Nat.le_of_ble_eq_true rfl)
  rw [lg_entry_eq]
  generalize (lg_sl ([.ref o, .int f, .int w]) ++ List.replicate (5 - (lg_sl ([.ref o, .int f, .int w])).length) Slot.unset).toArray = ls at hl ⊢
  have hl : lv_has ls 5 [(0, .ref o), (1, .int f), (2, .int w)] := hl
  refine lv_iconst (v := 0) hx hb dX12_lying_0 (by decide) ?_
  refine lv_istore_n (lv' := [(3, .int 0), (0, .ref o), (1, .int f), (2, .int w)]) hx hb dX12_lying_1 rfl hl (by decide) rfl (fun ls hl => ?_)
  refine lv_iconst (v := 0) hx hb dX12_lying_2 (by decide) ?_
  refine lv_istore (lv' := [(4, .int 0), (3, .int 0), (0, .ref o), (1, .int f), (2, .int w)]) hx hb dX12_lying_3 hl (by decide) rfl (fun ls hl => ?_)
  have lp1 : ∀ (fu : Nat) (y1_4 : Int32) (y1_3 : Int32), (0 ≤ y1_4.toInt ∧ y1_4.toInt ≤ 30) → (0 ≤ y1_3.toInt ∧ y1_3.toInt ≤ y1_4.toInt) → (30 - y1_4.toInt).toNat < fu → ∀ (H : Heap) (locs : List Loc) (ls : Array Slot), va_P D vwCl (mW o a t i q c d) H → va_S (ro s.heap.size) s.heap H locs → lv_has ls 5 [(4, .int y1_4), (3, .int y1_3), (0, .ref o), (1, .int f), (2, .int w)] → W p l e (headSpec wm_X12_lying ({ frames := 0, cells := 0, slots := 0, locals := 0 })).room s m ([.ref o, .int f, .int w] : List Value).toArray below meth cd H locs 0 0 (MQ below (va_Qi (fun (r : Int32) (_ : Unit) => (0 ≤ r.toInt ∧ r.toInt ≤ 30)) oA (ro s.heap.size)) ([.ref o, .int f, .int w] : List Value).toArray s 0 0 (ro s.heap.size)) (F0 m 5 ls []) := by
    intro fu
    induction fu with
    | zero => intro y1_4 y1_3 hy1_4 hy1_3 hm; exact absurd hm (Nat.not_lt_zero _)
    | succ fu ih =>
      intro y1_4 y1_3 hy1_4 hy1_3 hm H locs ls hP hS hl
      refine lv_iload hx hb dX12_lying_5 (lv_at hl 0 rfl) ?_
      refine lv_aload_n hx hb dX12_lying_7 rfl (lv_at hl 2 rfl) ?_
      refine va_get (D := D) (ci := 12) (v := .int (i 5)) (C := RX12) (T := TX12) (N := 69) hx hb hts (fun _ h => List.mem_cons_of_mem _ (List.mem_append_right _ h)) hown hK hP 0 rfl rfl 5 (by decide) (hts (.fieldLink RX12 177 "TalePlayModel" "objects" "I") (by decide +kernel)) (fun _ h9 => h9) rfl dX12_lying_8 ?_
      have rb5_i : 0 ≤ (i 5).toInt ∧ (i 5).toInt ≤ 30 := hI.1 5
      refine lv_icmp_ge (tgt := 50) hx hb dX12_lying_11 (by decide) (fun c2 => ?_) (fun c2 => ?_)
      · have f2 := (ti_le (a := (i 5).toInt) (b := y1_4.toInt) rfl rfl).mp c2
        refine lv_iload_n hx hb dX12_lying_50 rfl (lv_at hl 1 rfl) ?_
        exact ro_iret hx hb hr hlocks hS dX12_lying_51 (show 0 ≤ y1_3.toInt ∧ y1_3.toInt ≤ 30 from by omega)
      · have f2 := mt (ti_le (a := (i 5).toInt) (b := y1_4.toInt) rfl rfl).mpr c2
        refine lv_iload_n hx hb dX12_lying_14 rfl (lv_at hl 1 rfl) ?_
        refine lv_aload_n hx hb dX12_lying_15 rfl (lv_at hl 2 rfl) ?_
        refine va_get (D := D) (ci := 12) (v := .ref (a 23)) (C := RX12) (T := TX12) (N := 69) hx hb hts (fun _ h => List.mem_cons_of_mem _ (List.mem_append_right _ h)) hown hK hP 0 rfl rfl 23 (by decide) (hts (.fieldLink RX12 50 "TalePlayModel" "nForm" "[I") (by decide +kernel)) (fun _ h9 => h9) rfl dX12_lying_16 ?_
        refine lv_iload hx hb dX12_lying_19 (lv_at hl 0 rfl) ?_
        refine va_iald hx hb hK hP 14 13 rfl rfl (vp_in_iff.mpr (by have h9 : y1_4.toInt = y1_4.toInt := rfl; omega)) dX12_lying_21 ?_
        refine lv_topi (fun x3 ex3 => ?_)
        have rx3 : x3.toInt = -9 ∨ (0 ≤ x3.toInt ∧ x3.toInt ≤ 4) := by rw [ex3]; exact hI.2 23 _
        refine lv_iload_n hx hb dX12_lying_22 rfl (lv_at hl 3 rfl) ?_
        refine lv_icmp_ne (tgt := 41) hx hb dX12_lying_23 (by decide) (fun c4 => ?_) (fun c4 => ?_)
        · have f4 := mt (ti_eq (a := x3.toInt) (b := f.toInt) rfl rfl).mpr c4
          refine lv_iconst (v := 0) hx hb dX12_lying_41 (by decide) ?_
          refine lv_iadd hx hb dX12_lying_42 ?_
          refine lv_topi (fun x5 ex5 => ?_)
          have tx5 := ti_add (a := y1_3.toInt) (b := 0) ex5 rfl (by decide) (by omega) (by omega)
          refine lv_istore_n (lv' := [(3, .int x5), (4, .int y1_4), (0, .ref o), (1, .int f), (2, .int w)]) hx hb dX12_lying_43 rfl hl (by decide) rfl (fun ls hl => ?_)
          obtain ⟨x6, ex6⟩ : ∃ y : Int32, y = y1_4 + 1 := ⟨_, rfl⟩
          have tx6 := ti_add (a := y1_4.toInt) (b := 1) ex6 rfl (by decide) (by omega) (by omega)
          refine lv_iinc (v := x6) (lv' := [(4, .int x6), (3, .int x5), (0, .ref o), (1, .int f), (2, .int w)]) hx hb dX12_lying_44 hl (k := 1) rfl (by rw [ex6]; rfl) (by decide) rfl (fun ls hl => ?_)
          refine lv_goto (tgt := 5) hx hb dX12_lying_47 (by decide) ?_
          exact ih x6 x5 (by have h84 : x6.toInt = (y1_4.toInt + 1) := tx6; have h83 : x5.toInt = (y1_3.toInt + 0) := tx5; omega) (by have h84 : x6.toInt = (y1_4.toInt + 1) := tx6; have h83 : x5.toInt = (y1_3.toInt + 0) := tx5; omega) (by have h84 : x6.toInt = (y1_4.toInt + 1) := tx6; have h83 : x5.toInt = (y1_3.toInt + 0) := tx5; omega) _ _ _ hP hS (lv_sub hl [0, 1, 2, 3, 4] rfl)
        · have f4 := (ti_eq (a := x3.toInt) (b := f.toInt) rfl rfl).mp c4
          refine lv_aload_n hx hb dX12_lying_26 rfl (lv_at hl 2 rfl) ?_
          refine va_get (D := D) (ci := 12) (v := .ref (a 24)) (C := RX12) (T := TX12) (N := 69) hx hb hts (fun _ h => List.mem_cons_of_mem _ (List.mem_append_right _ h)) hown hK hP 0 rfl rfl 24 (by decide) (hts (.fieldLink RX12 53 "TalePlayModel" "nAt" "[I") (by decide +kernel)) (fun _ h9 => h9) rfl dX12_lying_27 ?_
          refine lv_iload hx hb dX12_lying_30 (lv_at hl 0 rfl) ?_
          refine va_iald hx hb hK hP 15 14 rfl rfl (vp_in_iff.mpr (by have h9 : y1_4.toInt = y1_4.toInt := rfl; omega)) dX12_lying_32 ?_
          refine lv_topi (fun x7 ex7 => ?_)
          have rx7 : x7.toInt = -9 ∨ (0 ≤ x7.toInt ∧ x7.toInt ≤ 29) := by rw [ex7]; exact hI.2 24 _
          refine lv_iload_n hx hb dX12_lying_33 rfl (lv_at hl 4 rfl) ?_
          refine lv_icmp_ne (tgt := 41) hx hb dX12_lying_34 (by decide) (fun c8 => ?_) (fun c8 => ?_)
          · have f8 := mt (ti_eq (a := x7.toInt) (b := w.toInt) rfl rfl).mpr c8
            refine lv_iconst (v := 0) hx hb dX12_lying_41 (by decide) ?_
            refine lv_iadd hx hb dX12_lying_42 ?_
            refine lv_topi (fun x9 ex9 => ?_)
            have tx9 := ti_add (a := y1_3.toInt) (b := 0) ex9 rfl (by decide) (by omega) (by omega)
            refine lv_istore_n (lv' := [(3, .int x9), (4, .int y1_4), (0, .ref o), (1, .int f), (2, .int w)]) hx hb dX12_lying_43 rfl hl (by decide) rfl (fun ls hl => ?_)
            obtain ⟨x10, ex10⟩ : ∃ y : Int32, y = y1_4 + 1 := ⟨_, rfl⟩
            have tx10 := ti_add (a := y1_4.toInt) (b := 1) ex10 rfl (by decide) (by omega) (by omega)
            refine lv_iinc (v := x10) (lv' := [(4, .int x10), (3, .int x9), (0, .ref o), (1, .int f), (2, .int w)]) hx hb dX12_lying_44 hl (k := 1) rfl (by rw [ex10]; rfl) (by decide) rfl (fun ls hl => ?_)
            refine lv_goto (tgt := 5) hx hb dX12_lying_47 (by decide) ?_
            exact ih x10 x9 (by have h84 : x10.toInt = (y1_4.toInt + 1) := tx10; have h83 : x9.toInt = (y1_3.toInt + 0) := tx9; omega) (by have h84 : x10.toInt = (y1_4.toInt + 1) := tx10; have h83 : x9.toInt = (y1_3.toInt + 0) := tx9; omega) (by have h84 : x10.toInt = (y1_4.toInt + 1) := tx10; have h83 : x9.toInt = (y1_3.toInt + 0) := tx9; omega) _ _ _ hP hS (lv_sub hl [0, 1, 2, 3, 4] rfl)
          · have f8 := (ti_eq (a := x7.toInt) (b := w.toInt) rfl rfl).mp c8
            refine lv_iconst (v := 1) hx hb dX12_lying_37 (by decide) ?_
            refine lv_goto (tgt := 42) hx hb dX12_lying_38 (by decide) ?_
            refine lv_iadd hx hb dX12_lying_42 ?_
            refine lv_topi (fun x11 ex11 => ?_)
            have tx11 := ti_add (a := y1_3.toInt) (b := 1) ex11 rfl (by decide) (by omega) (by omega)
            refine lv_istore_n (lv' := [(3, .int x11), (4, .int y1_4), (0, .ref o), (1, .int f), (2, .int w)]) hx hb dX12_lying_43 rfl hl (by decide) rfl (fun ls hl => ?_)
            obtain ⟨x12, ex12⟩ : ∃ y : Int32, y = y1_4 + 1 := ⟨_, rfl⟩
            have tx12 := ti_add (a := y1_4.toInt) (b := 1) ex12 rfl (by decide) (by omega) (by omega)
            refine lv_iinc (v := x12) (lv' := [(4, .int x12), (3, .int x11), (0, .ref o), (1, .int f), (2, .int w)]) hx hb dX12_lying_44 hl (k := 1) rfl (by rw [ex12]; rfl) (by decide) rfl (fun ls hl => ?_)
            refine lv_goto (tgt := 5) hx hb dX12_lying_47 (by decide) ?_
            exact ih x12 x11 (by have h84 : x12.toInt = (y1_4.toInt + 1) := tx12; have h83 : x11.toInt = (y1_3.toInt + 1) := tx11; omega) (by have h84 : x12.toInt = (y1_4.toInt + 1) := tx12; have h83 : x11.toInt = (y1_3.toInt + 1) := tx11; omega) (by have h84 : x12.toInt = (y1_4.toInt + 1) := tx12; have h83 : x11.toInt = (y1_3.toInt + 1) := tx11; omega) _ _ _ hP hS (lv_sub hl [0, 1, 2, 3, 4] rfl)
  exact lp1 _ (0 : Int32) (0 : Int32) (by have h84 : (0 : Int32).toInt = 0 := (by decide); have h83 : (0 : Int32).toInt = 0 := (by decide); omega) (by have h84 : (0 : Int32).toInt = 0 := (by decide); have h83 : (0 : Int32).toInt = 0 := (by decide); omega) (Nat.lt_succ_self _) _ _ _ hP hS (lv_sub hl [0, 1, 2, 3, 4] rfl)

def wm_X12_lookAtKinds : List Cond := .code yX12_lookAtKinds cX12_lookAtKinds 2 none :: (([.fieldLink RX12 177 "TalePlayModel" "objects" "I", .fieldLink RX12 92 "TalePlayModel" "lit" "[Z", .methodLink RX12 256 yX12_saidFlag, .instanceMethod yX12_saidFlag, .selects RX12 yX12_saidFlag yX12_saidFlag, .initialized RX12, .code yX12_saidFlag cX12_saidFlag 4 (some .int), .methodLink RX12 216 yX12_saidSo, .instanceMethod yX12_saidSo, .selects RX12 yX12_saidSo yX12_saidSo, .code yX12_saidSo cX12_saidSo 6 (some .int), .fieldLink RX12 202 "TalePlayModel" "sentences" "I", .fieldLink RX12 37 "TalePlayModel" "isSaid" "[Z", .fieldLink RX12 25 "TalePlayModel" "form" "[I", .fieldLink RX12 28 "TalePlayModel" "left" "[I", .fieldLink RX12 31 "TalePlayModel" "middle" "[I", .fieldLink RX12 34 "TalePlayModel" "right" "[I", .fieldLink RX12 19 "TalePlayModel" "kindOf" "[I", .methodLink RX12 184 yX12_isOf, .instanceMethod yX12_isOf, .selects RX12 yX12_isOf yX12_isOf, .code yX12_isOf cX12_isOf 4 (some .boolean), .fieldLink RX12 13 "TalePlayModel" "parentOf" "[I", .fieldLink RX12 16 "TalePlayModel" "defaults" "[I", .fieldLink RX12 98 "TalePlayModel" "isBox" "[Z", .fieldLink RX12 101 "TalePlayModel" "isRoom" "[Z", .fieldLink RX12 104 "TalePlayModel" "isDoor" "[Z", .fieldLink RX12 95 "TalePlayModel" "glass" "[Z"] : List Cond) ++ wsX120)
set_option maxRecDepth 20000 in
theorem gm_X12_lookAtKinds_X12_saidFlag : GoodIn wm_X12_lookAtKinds (wsV RX12 256 RX12 yX12_saidFlag wm_X12_saidFlag) := goodIn_app (goodIn_of _ (by decide +kernel)) (goodIn_r _ [7, 8, 9, 10, 6, 11, 12, 13, 14, 15, 16, 17, 18, 19, 20, 21, 22, 23, 24, 29, 30, 31, 32, 33, 34, 35, 36, 37, 38, 39, 40, 41, 42, 43, 44, 45, 46, 47, 48, 49, 50, 51, 52, 53, 54, 55, 56, 57, 58, 59, 60, 61, 62, 63, 64, 65, 66, 67, 68, 69, 70, 71, 72, 73, 74, 75, 76, 77, 78, 79, 80, 81, 82, 83, 84, 85, 86, 87, 88, 89, 90, 91, 92, 93, 94, 95, 96, 97] (by decide +kernel) (by decide +kernel))
set_option maxRecDepth 20000 in
theorem gm_X12_lookAtKinds_X12_isOf : GoodIn wm_X12_lookAtKinds (wsV RX12 184 RX12 yX12_isOf wm_X12_isOf) := goodIn_app (goodIn_of _ (by decide +kernel)) (goodIn_r _ [22, 18, 23, 29, 30, 31, 32, 33, 34, 35, 36, 37, 38, 39, 40, 41, 42, 43, 44, 45, 46, 47, 48, 49, 50, 51, 52, 53, 54, 55, 56, 57, 58, 59, 60, 61, 62, 63, 64, 65, 66, 67, 68, 69, 70, 71, 72, 73, 74, 75, 76, 77, 78, 79, 80, 81, 82, 83, 84, 85, 86, 87, 88, 89, 90, 91, 92, 93, 94, 95, 96, 97] (by decide +kernel) (by decide +kernel))
set_option maxHeartbeats 4000000 in
set_option maxRecDepth 100000 in
theorem s_X12_lookAtKinds (l : Launch) (D : va_G) (sz : Nat) (o : Nat) (a : Nat → Nat) (t : Nat → ClassId) (i : Nat → Int32) (q : Int64) (c : Nat → Nat → Int32) (d : Nat → Nat → Int64) (hI : mInv i c) : Met l yX12_lookAtKinds wm_X12_lookAtKinds ({ frames := 2, cells := 0, slots := 0, locals := 48 }) (va_Pc [.ref o] (pB D sz (mW o a t i q c d) (mT t))) (va_Qv (fun (u : MS) => True ∧ mInv u.1 u.2.2.1 ∧ (∀ k, k ∉ ([] : List Nat) → u.1 k = i k) ∧ (∀ k, k ∉ ([45, 46, 47, 48, 49] : List Nat) → u.2.2.1 k = c k)) (oC D (va_A (mW o a t i q c d) sz) (fun u : MS => mW o a t u.1 u.2.1 u.2.2.1 u.2.2.2) (fun _ => [])) (va_A (mW o a t i q c d) sz)) 0 0 (va_A (mW o a t i q c d) sz) := by
  refine Met.ofW (cc := cX12_lookAtKinds) (maxL := 2) (ret := none) (by decide) rfl ?_
  intro p e s m args below meth cd s₁ B hml hv
  obtain ⟨rfl, hsz, hP, hK, hD0⟩ := hv
  have hx := B.exec
  have hb := B.bytes
  have hr := B.returns
  have hts := atoms_spec (ws := wm_X12_lookAtKinds) B.pre
  have hown : s.vm.findClass RX12 = some m.cls := findClass_of_methodNamed B.named
  have hlocks := B.notSynchronized
  subst hsz
  have hD := hD0.self (sz := s.heap.size)
  generalize hAe : va_A (mW o a t i q c d) s.heap.size = A at hD ⊢
  have hA : ∀ q : Nat, s.heap.size ≤ q → A q := fun q h => by rw [← hAe]; exact Or.inr h
  have hS : va_S A s.heap s.heap [] := va_S.rf
  have hfi : ∀ k, k ∉ ([] : List Nat) → i k = i k := fun _ _ => rfl
  have hfc : ∀ k, k ∉ ([45, 46, 47, 48, 49] : List Nat) → c k = c k := fun _ _ => rfl
  have hl := lv_entry ([.ref o]) (n := 2) (Nat.le_of_ble_eq_true rfl)
  rw [lg_entry_eq]
  generalize (lg_sl ([.ref o]) ++ List.replicate (2 - (lg_sl ([.ref o])).length) Slot.unset).toArray = ls at hl ⊢
  have hl : lv_has ls 2 [(0, .ref o)] := hl
  refine lv_iconst (v := 0) hx hb dX12_lookAtKinds_0 (by decide) ?_
  refine lv_istore_n (lv' := [(1, .int 0), (0, .ref o)]) hx hb dX12_lookAtKinds_1 rfl hl (by decide) rfl (fun ls hl => ?_)
  have lp1 : ∀ (fu : Nat) (i1 : Nat → Int32) (q1 : Int64) (c1 : Nat → Nat → Int32) (d1 : Nat → Nat → Int64) (y1_1 : Int32), mInv i1 c1 → (∀ k, k ∉ ([] : List Nat) → i1 k = i k) → (∀ k, k ∉ ([45, 46, 47, 48, 49] : List Nat) → c1 k = c k) → (0 ≤ y1_1.toInt ∧ y1_1.toInt ≤ 30) → (30 - y1_1.toInt).toNat < fu → ∀ (H : Heap) (locs : List Loc) (ls : Array Slot), va_P D vwCl (mW o a t i1 q1 c1 d1) H → va_D A (mW o a t i1 q1 c1 d1) → va_S A s.heap H locs → lv_has ls 2 [(1, .int y1_1), (0, .ref o)] → W p l e (headSpec wm_X12_lookAtKinds ({ frames := 2, cells := 0, slots := 0, locals := 48 })).room s m ([.ref o] : List Value).toArray below meth cd H locs 0 0 (MQ below (va_Qv (fun (u : MS) => True ∧ mInv u.1 u.2.2.1 ∧ (∀ k, k ∉ ([] : List Nat) → u.1 k = i k) ∧ (∀ k, k ∉ ([45, 46, 47, 48, 49] : List Nat) → u.2.2.1 k = c k)) (oC D A (fun u : MS => mW o a t u.1 u.2.1 u.2.2.1 u.2.2.2) (fun _ => [])) A) ([.ref o] : List Value).toArray s 0 0 A) (F0 m 2 ls []) := by
    intro fu
    induction fu with
    | zero => intro i1 q1 c1 d1 y1_1 hI hfi hfc hy1_1 hm; exact absurd hm (Nat.not_lt_zero _)
    | succ fu ih =>
      intro i1 q1 c1 d1 y1_1 hI hfi hfc hy1_1 hm H locs ls hP hD hS hl
      refine lv_iload_n hx hb dX12_lookAtKinds_2 rfl (lv_at hl 0 rfl) ?_
      refine lv_aload_n hx hb dX12_lookAtKinds_3 rfl (lv_at hl 1 rfl) ?_
      refine va_get (D := D) (ci := 12) (v := .int (i1 5)) (C := RX12) (T := TX12) (N := 69) hx hb hts (fun _ h => List.mem_cons_of_mem _ (List.mem_append_right _ h)) hown hK hP 0 rfl rfl 5 (by decide) (hts (.fieldLink RX12 177 "TalePlayModel" "objects" "I") (by decide +kernel)) (fun _ h9 => h9) rfl dX12_lookAtKinds_4 ?_
      have rb5_i1 : 0 ≤ (i1 5).toInt ∧ (i1 5).toInt ≤ 30 := hI.1 5
      refine lv_icmp_ge (tgt := 103) hx hb dX12_lookAtKinds_7 (by decide) (fun c2 => ?_) (fun c2 => ?_)
      · have f2 := (ti_le (a := (i1 5).toInt) (b := y1_1.toInt) rfl rfl).mp c2
        exact rw_vret (i1, q1, c1, d1) hx hb hr hlocks hS (hK.sub (tys' := []) [] rfl) hP hD dX12_lookAtKinds_103 ⟨trivial, hI, hfi, hfc⟩
      · have f2 := mt (ti_le (a := (i1 5).toInt) (b := y1_1.toInt) rfl rfl).mpr c2
        refine lv_aload_n hx hb dX12_lookAtKinds_10 rfl (lv_at hl 1 rfl) ?_
        refine va_get (D := D) (ci := 12) (v := .ref (a 45)) (C := RX12) (T := TX12) (N := 69) hx hb hts (fun _ h => List.mem_cons_of_mem _ (List.mem_append_right _ h)) hown hK hP 0 rfl rfl 45 (by decide) (hts (.fieldLink RX12 92 "TalePlayModel" "lit" "[Z") (by decide +kernel)) (fun _ h9 => h9) rfl dX12_lookAtKinds_11 ?_
        refine lv_iload_n hx hb dX12_lookAtKinds_14 rfl (lv_at hl 0 rfl) ?_
        refine lv_aload_n hx hb dX12_lookAtKinds_15 rfl (lv_at hl 1 rfl) ?_
        refine lv_iload_n hx hb dX12_lookAtKinds_16 rfl (lv_at hl 0 rfl) ?_
        refine lv_iconst (v := 2) hx hb dX12_lookAtKinds_17 (by decide) ?_
        refine ro_calli (va_runV (As := [.int y1_1, .int 2]) (rest := [.int y1_1, .ref (a 45)]) ⟨hx, hb, hml, hown, hts⟩ (s_X12_saidFlag l D H.size o a t i1 q1 c1 d1 y1_1 2 hI (by have h91 : (2 : Int32).toInt = 2 := (by decide); omega) (by have h91 : (2 : Int32).toInt = 2 := (by decide); omega)) (cwV 2 hts gm_X12_lookAtKinds_X12_saidFlag rfl rfl rfl (by decide +kernel) ⟨Nat.le_of_ble_eq_true rfl, Nat.le_of_ble_eq_true rfl⟩) (pA_V hK hP (ci := 12) (q0 := 0) rfl rfl) rfl rfl hl.1 rfl (lv_room (Nat.le_of_ble_eq_true rfl)) dX12_lookAtKinds_18 ⟨Nat.le_of_ble_eq_true rfl, Nat.le_of_ble_eq_true rfl⟩) hS hA hP (fun r3 u3 H locs hw3 hP hS => ?_)
        have hw3 : r3.toInt = -9 ∨ (0 ≤ r3.toInt ∧ r3.toInt ≤ 1) := hw3
        refine lv_iconst (v := 1) hx hb dX12_lookAtKinds_21 (by decide) ?_
        refine lv_icmp_ne (tgt := 29) hx hb dX12_lookAtKinds_22 (by decide) (fun c4 => ?_) (fun c4 => ?_)
        · have f4 := mt (ti_eq (a := r3.toInt) (b := 1) rfl (by decide)).mpr c4
          refine lv_iconst (v := 0) hx hb dX12_lookAtKinds_29 (by decide) ?_
          refine zast2 hx hb hK hP hD hS 28 27 rfl rfl (vp_in_iff.mpr (by have h9 : y1_1.toInt = y1_1.toInt := rfl; omega)) (nb_z (show 0 ≤ (0 : Int32).toInt ∧ (0 : Int32).toInt ≤ 1 from by decide)) dX12_lookAtKinds_30 (fun H locs hP hD hS => ?_)
          have hI := mInv_c hI (k := 45) (j := (y1_1 : Int32).toNatClampNeg) (x := 0) (show 0 ≤ (0 : Int32).toInt ∧ (0 : Int32).toInt ≤ 1 from by decide)
          have hfc := fr_c hfc (k := 45) (j := (y1_1 : Int32).toNatClampNeg) (x := 0) (by decide)
          have hP : va_P D vwCl (mW o a t i1 q1 (updA c1 45 (y1_1 : Int32).toNatClampNeg 0) d1) H := hP
          have hD : va_D A (mW o a t i1 q1 (updA c1 45 (y1_1 : Int32).toNatClampNeg 0) d1) := hD
          refine lv_aload_n hx hb dX12_lookAtKinds_31 rfl (lv_at hl 1 rfl) ?_
          refine va_get (D := D) (ci := 12) (v := .ref (a 47)) (C := RX12) (T := TX12) (N := 69) hx hb hts (fun _ h => List.mem_cons_of_mem _ (List.mem_append_right _ h)) hown hK hP 0 rfl rfl 47 (by decide) (hts (.fieldLink RX12 98 "TalePlayModel" "isBox" "[Z") (by decide +kernel)) (fun _ h9 => h9) rfl dX12_lookAtKinds_32 ?_
          refine lv_iload_n hx hb dX12_lookAtKinds_35 rfl (lv_at hl 0 rfl) ?_
          refine lv_aload_n hx hb dX12_lookAtKinds_36 rfl (lv_at hl 1 rfl) ?_
          refine lv_iload_n hx hb dX12_lookAtKinds_37 rfl (lv_at hl 0 rfl) ?_
          refine lv_iconst (v := 3) hx hb dX12_lookAtKinds_38 (by decide) ?_
          refine ro_calli (va_runV (As := [.int y1_1, .int 3]) (rest := [.int y1_1, .ref (a 47)]) ⟨hx, hb, hml, hown, hts⟩ (s_X12_isOf l D H.size o a t i1 q1 (updA c1 45 (y1_1 : Int32).toNatClampNeg 0) d1 y1_1 3 hI (by have h91 : (3 : Int32).toInt = 3 := (by decide); omega)) (cwV 2 hts gm_X12_lookAtKinds_X12_isOf rfl rfl rfl (by decide +kernel) ⟨Nat.le_of_ble_eq_true rfl, Nat.le_of_ble_eq_true rfl⟩) (pA_V hK hP (ci := 12) (q0 := 0) rfl rfl) rfl rfl hl.1 rfl (lv_room (Nat.le_of_ble_eq_true rfl)) dX12_lookAtKinds_39 ⟨Nat.le_of_ble_eq_true rfl, Nat.le_of_ble_eq_true rfl⟩) hS hA hP (fun r5 u5 H locs hw5 hP hS => ?_)
          have hw5 : 0 ≤ r5.toInt ∧ r5.toInt ≤ 1 := hw5
          refine zast2 hx hb hK hP hD hS 30 29 rfl rfl (vp_in_iff.mpr (by have h9 : y1_1.toInt = y1_1.toInt := rfl; omega)) (nb_z (show 0 ≤ (r5 : Int32).toInt ∧ (r5 : Int32).toInt ≤ 1 from by omega)) dX12_lookAtKinds_42 (fun H locs hP hD hS => ?_)
          have hI := mInv_c hI (k := 47) (j := (y1_1 : Int32).toNatClampNeg) (x := r5) (show 0 ≤ (r5 : Int32).toInt ∧ (r5 : Int32).toInt ≤ 1 from by omega)
          have hfc := fr_c hfc (k := 47) (j := (y1_1 : Int32).toNatClampNeg) (x := r5) (by decide)
          have hP : va_P D vwCl (mW o a t i1 q1 (updA (updA c1 45 (y1_1 : Int32).toNatClampNeg 0) 47 (y1_1 : Int32).toNatClampNeg r5) d1) H := hP
          have hD : va_D A (mW o a t i1 q1 (updA (updA c1 45 (y1_1 : Int32).toNatClampNeg 0) 47 (y1_1 : Int32).toNatClampNeg r5) d1) := hD
          refine lv_aload_n hx hb dX12_lookAtKinds_43 rfl (lv_at hl 1 rfl) ?_
          refine va_get (D := D) (ci := 12) (v := .ref (a 48)) (C := RX12) (T := TX12) (N := 69) hx hb hts (fun _ h => List.mem_cons_of_mem _ (List.mem_append_right _ h)) hown hK hP 0 rfl rfl 48 (by decide) (hts (.fieldLink RX12 101 "TalePlayModel" "isRoom" "[Z") (by decide +kernel)) (fun _ h9 => h9) rfl dX12_lookAtKinds_44 ?_
          refine lv_iload_n hx hb dX12_lookAtKinds_47 rfl (lv_at hl 0 rfl) ?_
          refine lv_aload_n hx hb dX12_lookAtKinds_48 rfl (lv_at hl 1 rfl) ?_
          refine lv_iload_n hx hb dX12_lookAtKinds_49 rfl (lv_at hl 0 rfl) ?_
          refine lv_iconst (v := 0) hx hb dX12_lookAtKinds_50 (by decide) ?_
          refine ro_calli (va_runV (As := [.int y1_1, .int 0]) (rest := [.int y1_1, .ref (a 48)]) ⟨hx, hb, hml, hown, hts⟩ (s_X12_isOf l D H.size o a t i1 q1 (updA (updA c1 45 (y1_1 : Int32).toNatClampNeg 0) 47 (y1_1 : Int32).toNatClampNeg r5) d1 y1_1 0 hI (by have h91 : (0 : Int32).toInt = 0 := (by decide); omega)) (cwV 2 hts gm_X12_lookAtKinds_X12_isOf rfl rfl rfl (by decide +kernel) ⟨Nat.le_of_ble_eq_true rfl, Nat.le_of_ble_eq_true rfl⟩) (pA_V hK hP (ci := 12) (q0 := 0) rfl rfl) rfl rfl hl.1 rfl (lv_room (Nat.le_of_ble_eq_true rfl)) dX12_lookAtKinds_51 ⟨Nat.le_of_ble_eq_true rfl, Nat.le_of_ble_eq_true rfl⟩) hS hA hP (fun r6 u6 H locs hw6 hP hS => ?_)
          have hw6 : 0 ≤ r6.toInt ∧ r6.toInt ≤ 1 := hw6
          refine zast2 hx hb hK hP hD hS 31 30 rfl rfl (vp_in_iff.mpr (by have h9 : y1_1.toInt = y1_1.toInt := rfl; omega)) (nb_z (show 0 ≤ (r6 : Int32).toInt ∧ (r6 : Int32).toInt ≤ 1 from by omega)) dX12_lookAtKinds_54 (fun H locs hP hD hS => ?_)
          have hI := mInv_c hI (k := 48) (j := (y1_1 : Int32).toNatClampNeg) (x := r6) (show 0 ≤ (r6 : Int32).toInt ∧ (r6 : Int32).toInt ≤ 1 from by omega)
          have hfc := fr_c hfc (k := 48) (j := (y1_1 : Int32).toNatClampNeg) (x := r6) (by decide)
          have hP : va_P D vwCl (mW o a t i1 q1 (updA (updA (updA c1 45 (y1_1 : Int32).toNatClampNeg 0) 47 (y1_1 : Int32).toNatClampNeg r5) 48 (y1_1 : Int32).toNatClampNeg r6) d1) H := hP
          have hD : va_D A (mW o a t i1 q1 (updA (updA (updA c1 45 (y1_1 : Int32).toNatClampNeg 0) 47 (y1_1 : Int32).toNatClampNeg r5) 48 (y1_1 : Int32).toNatClampNeg r6) d1) := hD
          refine lv_aload_n hx hb dX12_lookAtKinds_55 rfl (lv_at hl 1 rfl) ?_
          refine va_get (D := D) (ci := 12) (v := .ref (a 49)) (C := RX12) (T := TX12) (N := 69) hx hb hts (fun _ h => List.mem_cons_of_mem _ (List.mem_append_right _ h)) hown hK hP 0 rfl rfl 49 (by decide) (hts (.fieldLink RX12 104 "TalePlayModel" "isDoor" "[Z") (by decide +kernel)) (fun _ h9 => h9) rfl dX12_lookAtKinds_56 ?_
          refine lv_iload_n hx hb dX12_lookAtKinds_59 rfl (lv_at hl 0 rfl) ?_
          refine lv_aload_n hx hb dX12_lookAtKinds_60 rfl (lv_at hl 1 rfl) ?_
          refine lv_iload_n hx hb dX12_lookAtKinds_61 rfl (lv_at hl 0 rfl) ?_
          refine lv_iconst (v := 2) hx hb dX12_lookAtKinds_62 (by decide) ?_
          refine ro_calli (va_runV (As := [.int y1_1, .int 2]) (rest := [.int y1_1, .ref (a 49)]) ⟨hx, hb, hml, hown, hts⟩ (s_X12_isOf l D H.size o a t i1 q1 (updA (updA (updA c1 45 (y1_1 : Int32).toNatClampNeg 0) 47 (y1_1 : Int32).toNatClampNeg r5) 48 (y1_1 : Int32).toNatClampNeg r6) d1 y1_1 2 hI (by have h91 : (2 : Int32).toInt = 2 := (by decide); omega)) (cwV 2 hts gm_X12_lookAtKinds_X12_isOf rfl rfl rfl (by decide +kernel) ⟨Nat.le_of_ble_eq_true rfl, Nat.le_of_ble_eq_true rfl⟩) (pA_V hK hP (ci := 12) (q0 := 0) rfl rfl) rfl rfl hl.1 rfl (lv_room (Nat.le_of_ble_eq_true rfl)) dX12_lookAtKinds_63 ⟨Nat.le_of_ble_eq_true rfl, Nat.le_of_ble_eq_true rfl⟩) hS hA hP (fun r7 u7 H locs hw7 hP hS => ?_)
          have hw7 : 0 ≤ r7.toInt ∧ r7.toInt ≤ 1 := hw7
          refine zast2 hx hb hK hP hD hS 32 31 rfl rfl (vp_in_iff.mpr (by have h9 : y1_1.toInt = y1_1.toInt := rfl; omega)) (nb_z (show 0 ≤ (r7 : Int32).toInt ∧ (r7 : Int32).toInt ≤ 1 from by omega)) dX12_lookAtKinds_66 (fun H locs hP hD hS => ?_)
          have hI := mInv_c hI (k := 49) (j := (y1_1 : Int32).toNatClampNeg) (x := r7) (show 0 ≤ (r7 : Int32).toInt ∧ (r7 : Int32).toInt ≤ 1 from by omega)
          have hfc := fr_c hfc (k := 49) (j := (y1_1 : Int32).toNatClampNeg) (x := r7) (by decide)
          have hP : va_P D vwCl (mW o a t i1 q1 (updA (updA (updA (updA c1 45 (y1_1 : Int32).toNatClampNeg 0) 47 (y1_1 : Int32).toNatClampNeg r5) 48 (y1_1 : Int32).toNatClampNeg r6) 49 (y1_1 : Int32).toNatClampNeg r7) d1) H := hP
          have hD : va_D A (mW o a t i1 q1 (updA (updA (updA (updA c1 45 (y1_1 : Int32).toNatClampNeg 0) 47 (y1_1 : Int32).toNatClampNeg r5) 48 (y1_1 : Int32).toNatClampNeg r6) 49 (y1_1 : Int32).toNatClampNeg r7) d1) := hD
          refine lv_aload_n hx hb dX12_lookAtKinds_67 rfl (lv_at hl 1 rfl) ?_
          refine va_get (D := D) (ci := 12) (v := .ref (a 46)) (C := RX12) (T := TX12) (N := 69) hx hb hts (fun _ h => List.mem_cons_of_mem _ (List.mem_append_right _ h)) hown hK hP 0 rfl rfl 46 (by decide) (hts (.fieldLink RX12 95 "TalePlayModel" "glass" "[Z") (by decide +kernel)) (fun _ h9 => h9) rfl dX12_lookAtKinds_68 ?_
          refine lv_iload_n hx hb dX12_lookAtKinds_71 rfl (lv_at hl 0 rfl) ?_
          refine lv_aload_n hx hb dX12_lookAtKinds_72 rfl (lv_at hl 1 rfl) ?_
          refine va_get (D := D) (ci := 12) (v := .ref (a 47)) (C := RX12) (T := TX12) (N := 69) hx hb hts (fun _ h => List.mem_cons_of_mem _ (List.mem_append_right _ h)) hown hK hP 0 rfl rfl 47 (by decide) (hts (.fieldLink RX12 98 "TalePlayModel" "isBox" "[Z") (by decide +kernel)) (fun _ h9 => h9) rfl dX12_lookAtKinds_73 ?_
          refine lv_iload_n hx hb dX12_lookAtKinds_76 rfl (lv_at hl 0 rfl) ?_
          refine va_zald hx hb hK hP 30 29 rfl rfl (vp_in_iff.mpr (by have h9 : y1_1.toInt = y1_1.toInt := rfl; omega)) dX12_lookAtKinds_77 ?_
          refine lv_topi (fun x8 ex8 => ?_)
          have rx8 : 0 ≤ x8.toInt ∧ x8.toInt ≤ 1 := by rw [ex8]; exact hI.2 47 _
          refine lv_if_eq (tgt := 95) hx hb dX12_lookAtKinds_78 (by decide) (fun c9 => ?_) (fun c9 => ?_)
          · have f9 := (ti_eq (a := x8.toInt) (b := 0) rfl (by decide)).mp c9
            refine lv_iconst (v := 0) hx hb dX12_lookAtKinds_95 (by decide) ?_
            refine zast2 hx hb hK hP hD hS 29 28 rfl rfl (vp_in_iff.mpr (by have h9 : y1_1.toInt = y1_1.toInt := rfl; omega)) (nb_z (show 0 ≤ (0 : Int32).toInt ∧ (0 : Int32).toInt ≤ 1 from by decide)) dX12_lookAtKinds_96 (fun H locs hP hD hS => ?_)
            have hI := mInv_c hI (k := 46) (j := (y1_1 : Int32).toNatClampNeg) (x := 0) (show 0 ≤ (0 : Int32).toInt ∧ (0 : Int32).toInt ≤ 1 from by decide)
            have hfc := fr_c hfc (k := 46) (j := (y1_1 : Int32).toNatClampNeg) (x := 0) (by decide)
            have hP : va_P D vwCl (mW o a t i1 q1 (updA (updA (updA (updA (updA c1 45 (y1_1 : Int32).toNatClampNeg 0) 47 (y1_1 : Int32).toNatClampNeg r5) 48 (y1_1 : Int32).toNatClampNeg r6) 49 (y1_1 : Int32).toNatClampNeg r7) 46 (y1_1 : Int32).toNatClampNeg 0) d1) H := hP
            have hD : va_D A (mW o a t i1 q1 (updA (updA (updA (updA (updA c1 45 (y1_1 : Int32).toNatClampNeg 0) 47 (y1_1 : Int32).toNatClampNeg r5) 48 (y1_1 : Int32).toNatClampNeg r6) 49 (y1_1 : Int32).toNatClampNeg r7) 46 (y1_1 : Int32).toNatClampNeg 0) d1) := hD
            obtain ⟨x10, ex10⟩ : ∃ y : Int32, y = y1_1 + 1 := ⟨_, rfl⟩
            have tx10 := ti_add (a := y1_1.toInt) (b := 1) ex10 rfl (by decide) (by omega) (by omega)
            refine lv_iinc (v := x10) (lv' := [(1, .int x10), (0, .ref o)]) hx hb dX12_lookAtKinds_97 hl (k := 0) rfl (by rw [ex10]; rfl) (by decide) rfl (fun ls hl => ?_)
            refine lv_goto (tgt := 2) hx hb dX12_lookAtKinds_100 (by decide) ?_
            exact ih i1 q1 (updA (updA (updA (updA (updA c1 45 (y1_1 : Int32).toNatClampNeg 0) 47 (y1_1 : Int32).toNatClampNeg r5) 48 (y1_1 : Int32).toNatClampNeg r6) 49 (y1_1 : Int32).toNatClampNeg r7) 46 (y1_1 : Int32).toNatClampNeg 0) d1 x10 hI hfi hfc (by have h81 : x10.toInt = (y1_1.toInt + 1) := tx10; omega) (by have h81 : x10.toInt = (y1_1.toInt + 1) := tx10; omega) _ _ _ hP hD hS (lv_sub hl [0, 1] rfl)
          · have f9 := mt (ti_eq (a := x8.toInt) (b := 0) rfl (by decide)).mpr c9
            refine lv_aload_n hx hb dX12_lookAtKinds_81 rfl (lv_at hl 1 rfl) ?_
            refine lv_iload_n hx hb dX12_lookAtKinds_82 rfl (lv_at hl 0 rfl) ?_
            refine lv_iconst (v := 5) hx hb dX12_lookAtKinds_83 (by decide) ?_
            refine ro_calli (va_runV (As := [.int y1_1, .int 5]) (rest := [.int y1_1, .ref (a 46)]) ⟨hx, hb, hml, hown, hts⟩ (s_X12_saidFlag l D H.size o a t i1 q1 (updA (updA (updA (updA c1 45 (y1_1 : Int32).toNatClampNeg 0) 47 (y1_1 : Int32).toNatClampNeg r5) 48 (y1_1 : Int32).toNatClampNeg r6) 49 (y1_1 : Int32).toNatClampNeg r7) d1 y1_1 5 hI (by have h91 : (5 : Int32).toInt = 5 := (by decide); omega) (by have h91 : (5 : Int32).toInt = 5 := (by decide); omega)) (cwV 2 hts gm_X12_lookAtKinds_X12_saidFlag rfl rfl rfl (by decide +kernel) ⟨Nat.le_of_ble_eq_true rfl, Nat.le_of_ble_eq_true rfl⟩) (pA_V hK hP (ci := 12) (q0 := 0) rfl rfl) rfl rfl hl.1 rfl (lv_room (Nat.le_of_ble_eq_true rfl)) dX12_lookAtKinds_84 ⟨Nat.le_of_ble_eq_true rfl, Nat.le_of_ble_eq_true rfl⟩) hS hA hP (fun r11 u11 H locs hw11 hP hS => ?_)
            have hw11 : r11.toInt = -9 ∨ (0 ≤ r11.toInt ∧ r11.toInt ≤ 1) := hw11
            refine lv_iconst (v := 1) hx hb dX12_lookAtKinds_87 (by decide) ?_
            refine lv_icmp_ne (tgt := 95) hx hb dX12_lookAtKinds_88 (by decide) (fun c12 => ?_) (fun c12 => ?_)
            · have f12 := mt (ti_eq (a := r11.toInt) (b := 1) rfl (by decide)).mpr c12
              refine lv_iconst (v := 0) hx hb dX12_lookAtKinds_95 (by decide) ?_
              refine zast2 hx hb hK hP hD hS 29 28 rfl rfl (vp_in_iff.mpr (by have h9 : y1_1.toInt = y1_1.toInt := rfl; omega)) (nb_z (show 0 ≤ (0 : Int32).toInt ∧ (0 : Int32).toInt ≤ 1 from by decide)) dX12_lookAtKinds_96 (fun H locs hP hD hS => ?_)
              have hI := mInv_c hI (k := 46) (j := (y1_1 : Int32).toNatClampNeg) (x := 0) (show 0 ≤ (0 : Int32).toInt ∧ (0 : Int32).toInt ≤ 1 from by decide)
              have hfc := fr_c hfc (k := 46) (j := (y1_1 : Int32).toNatClampNeg) (x := 0) (by decide)
              have hP : va_P D vwCl (mW o a t i1 q1 (updA (updA (updA (updA (updA c1 45 (y1_1 : Int32).toNatClampNeg 0) 47 (y1_1 : Int32).toNatClampNeg r5) 48 (y1_1 : Int32).toNatClampNeg r6) 49 (y1_1 : Int32).toNatClampNeg r7) 46 (y1_1 : Int32).toNatClampNeg 0) d1) H := hP
              have hD : va_D A (mW o a t i1 q1 (updA (updA (updA (updA (updA c1 45 (y1_1 : Int32).toNatClampNeg 0) 47 (y1_1 : Int32).toNatClampNeg r5) 48 (y1_1 : Int32).toNatClampNeg r6) 49 (y1_1 : Int32).toNatClampNeg r7) 46 (y1_1 : Int32).toNatClampNeg 0) d1) := hD
              obtain ⟨x13, ex13⟩ : ∃ y : Int32, y = y1_1 + 1 := ⟨_, rfl⟩
              have tx13 := ti_add (a := y1_1.toInt) (b := 1) ex13 rfl (by decide) (by omega) (by omega)
              refine lv_iinc (v := x13) (lv' := [(1, .int x13), (0, .ref o)]) hx hb dX12_lookAtKinds_97 hl (k := 0) rfl (by rw [ex13]; rfl) (by decide) rfl (fun ls hl => ?_)
              refine lv_goto (tgt := 2) hx hb dX12_lookAtKinds_100 (by decide) ?_
              exact ih i1 q1 (updA (updA (updA (updA (updA c1 45 (y1_1 : Int32).toNatClampNeg 0) 47 (y1_1 : Int32).toNatClampNeg r5) 48 (y1_1 : Int32).toNatClampNeg r6) 49 (y1_1 : Int32).toNatClampNeg r7) 46 (y1_1 : Int32).toNatClampNeg 0) d1 x13 hI hfi hfc (by have h81 : x13.toInt = (y1_1.toInt + 1) := tx13; omega) (by have h81 : x13.toInt = (y1_1.toInt + 1) := tx13; omega) _ _ _ hP hD hS (lv_sub hl [0, 1] rfl)
            · have f12 := (ti_eq (a := r11.toInt) (b := 1) rfl (by decide)).mp c12
              refine lv_iconst (v := 1) hx hb dX12_lookAtKinds_91 (by decide) ?_
              refine lv_goto (tgt := 96) hx hb dX12_lookAtKinds_92 (by decide) ?_
              refine zast2 hx hb hK hP hD hS 29 28 rfl rfl (vp_in_iff.mpr (by have h9 : y1_1.toInt = y1_1.toInt := rfl; omega)) (nb_z (show 0 ≤ (1 : Int32).toInt ∧ (1 : Int32).toInt ≤ 1 from by decide)) dX12_lookAtKinds_96 (fun H locs hP hD hS => ?_)
              have hI := mInv_c hI (k := 46) (j := (y1_1 : Int32).toNatClampNeg) (x := 1) (show 0 ≤ (1 : Int32).toInt ∧ (1 : Int32).toInt ≤ 1 from by decide)
              have hfc := fr_c hfc (k := 46) (j := (y1_1 : Int32).toNatClampNeg) (x := 1) (by decide)
              have hP : va_P D vwCl (mW o a t i1 q1 (updA (updA (updA (updA (updA c1 45 (y1_1 : Int32).toNatClampNeg 0) 47 (y1_1 : Int32).toNatClampNeg r5) 48 (y1_1 : Int32).toNatClampNeg r6) 49 (y1_1 : Int32).toNatClampNeg r7) 46 (y1_1 : Int32).toNatClampNeg 1) d1) H := hP
              have hD : va_D A (mW o a t i1 q1 (updA (updA (updA (updA (updA c1 45 (y1_1 : Int32).toNatClampNeg 0) 47 (y1_1 : Int32).toNatClampNeg r5) 48 (y1_1 : Int32).toNatClampNeg r6) 49 (y1_1 : Int32).toNatClampNeg r7) 46 (y1_1 : Int32).toNatClampNeg 1) d1) := hD
              obtain ⟨x14, ex14⟩ : ∃ y : Int32, y = y1_1 + 1 := ⟨_, rfl⟩
              have tx14 := ti_add (a := y1_1.toInt) (b := 1) ex14 rfl (by decide) (by omega) (by omega)
              refine lv_iinc (v := x14) (lv' := [(1, .int x14), (0, .ref o)]) hx hb dX12_lookAtKinds_97 hl (k := 0) rfl (by rw [ex14]; rfl) (by decide) rfl (fun ls hl => ?_)
              refine lv_goto (tgt := 2) hx hb dX12_lookAtKinds_100 (by decide) ?_
              exact ih i1 q1 (updA (updA (updA (updA (updA c1 45 (y1_1 : Int32).toNatClampNeg 0) 47 (y1_1 : Int32).toNatClampNeg r5) 48 (y1_1 : Int32).toNatClampNeg r6) 49 (y1_1 : Int32).toNatClampNeg r7) 46 (y1_1 : Int32).toNatClampNeg 1) d1 x14 hI hfi hfc (by have h81 : x14.toInt = (y1_1.toInt + 1) := tx14; omega) (by have h81 : x14.toInt = (y1_1.toInt + 1) := tx14; omega) _ _ _ hP hD hS (lv_sub hl [0, 1] rfl)
        · have f4 := (ti_eq (a := r3.toInt) (b := 1) rfl (by decide)).mp c4
          refine lv_iconst (v := 1) hx hb dX12_lookAtKinds_25 (by decide) ?_
          refine lv_goto (tgt := 30) hx hb dX12_lookAtKinds_26 (by decide) ?_
          refine zast2 hx hb hK hP hD hS 28 27 rfl rfl (vp_in_iff.mpr (by have h9 : y1_1.toInt = y1_1.toInt := rfl; omega)) (nb_z (show 0 ≤ (1 : Int32).toInt ∧ (1 : Int32).toInt ≤ 1 from by decide)) dX12_lookAtKinds_30 (fun H locs hP hD hS => ?_)
          have hI := mInv_c hI (k := 45) (j := (y1_1 : Int32).toNatClampNeg) (x := 1) (show 0 ≤ (1 : Int32).toInt ∧ (1 : Int32).toInt ≤ 1 from by decide)
          have hfc := fr_c hfc (k := 45) (j := (y1_1 : Int32).toNatClampNeg) (x := 1) (by decide)
          have hP : va_P D vwCl (mW o a t i1 q1 (updA c1 45 (y1_1 : Int32).toNatClampNeg 1) d1) H := hP
          have hD : va_D A (mW o a t i1 q1 (updA c1 45 (y1_1 : Int32).toNatClampNeg 1) d1) := hD
          refine lv_aload_n hx hb dX12_lookAtKinds_31 rfl (lv_at hl 1 rfl) ?_
          refine va_get (D := D) (ci := 12) (v := .ref (a 47)) (C := RX12) (T := TX12) (N := 69) hx hb hts (fun _ h => List.mem_cons_of_mem _ (List.mem_append_right _ h)) hown hK hP 0 rfl rfl 47 (by decide) (hts (.fieldLink RX12 98 "TalePlayModel" "isBox" "[Z") (by decide +kernel)) (fun _ h9 => h9) rfl dX12_lookAtKinds_32 ?_
          refine lv_iload_n hx hb dX12_lookAtKinds_35 rfl (lv_at hl 0 rfl) ?_
          refine lv_aload_n hx hb dX12_lookAtKinds_36 rfl (lv_at hl 1 rfl) ?_
          refine lv_iload_n hx hb dX12_lookAtKinds_37 rfl (lv_at hl 0 rfl) ?_
          refine lv_iconst (v := 3) hx hb dX12_lookAtKinds_38 (by decide) ?_
          refine ro_calli (va_runV (As := [.int y1_1, .int 3]) (rest := [.int y1_1, .ref (a 47)]) ⟨hx, hb, hml, hown, hts⟩ (s_X12_isOf l D H.size o a t i1 q1 (updA c1 45 (y1_1 : Int32).toNatClampNeg 1) d1 y1_1 3 hI (by have h91 : (3 : Int32).toInt = 3 := (by decide); omega)) (cwV 2 hts gm_X12_lookAtKinds_X12_isOf rfl rfl rfl (by decide +kernel) ⟨Nat.le_of_ble_eq_true rfl, Nat.le_of_ble_eq_true rfl⟩) (pA_V hK hP (ci := 12) (q0 := 0) rfl rfl) rfl rfl hl.1 rfl (lv_room (Nat.le_of_ble_eq_true rfl)) dX12_lookAtKinds_39 ⟨Nat.le_of_ble_eq_true rfl, Nat.le_of_ble_eq_true rfl⟩) hS hA hP (fun r15 u15 H locs hw15 hP hS => ?_)
          have hw15 : 0 ≤ r15.toInt ∧ r15.toInt ≤ 1 := hw15
          refine zast2 hx hb hK hP hD hS 30 29 rfl rfl (vp_in_iff.mpr (by have h9 : y1_1.toInt = y1_1.toInt := rfl; omega)) (nb_z (show 0 ≤ (r15 : Int32).toInt ∧ (r15 : Int32).toInt ≤ 1 from by omega)) dX12_lookAtKinds_42 (fun H locs hP hD hS => ?_)
          have hI := mInv_c hI (k := 47) (j := (y1_1 : Int32).toNatClampNeg) (x := r15) (show 0 ≤ (r15 : Int32).toInt ∧ (r15 : Int32).toInt ≤ 1 from by omega)
          have hfc := fr_c hfc (k := 47) (j := (y1_1 : Int32).toNatClampNeg) (x := r15) (by decide)
          have hP : va_P D vwCl (mW o a t i1 q1 (updA (updA c1 45 (y1_1 : Int32).toNatClampNeg 1) 47 (y1_1 : Int32).toNatClampNeg r15) d1) H := hP
          have hD : va_D A (mW o a t i1 q1 (updA (updA c1 45 (y1_1 : Int32).toNatClampNeg 1) 47 (y1_1 : Int32).toNatClampNeg r15) d1) := hD
          refine lv_aload_n hx hb dX12_lookAtKinds_43 rfl (lv_at hl 1 rfl) ?_
          refine va_get (D := D) (ci := 12) (v := .ref (a 48)) (C := RX12) (T := TX12) (N := 69) hx hb hts (fun _ h => List.mem_cons_of_mem _ (List.mem_append_right _ h)) hown hK hP 0 rfl rfl 48 (by decide) (hts (.fieldLink RX12 101 "TalePlayModel" "isRoom" "[Z") (by decide +kernel)) (fun _ h9 => h9) rfl dX12_lookAtKinds_44 ?_
          refine lv_iload_n hx hb dX12_lookAtKinds_47 rfl (lv_at hl 0 rfl) ?_
          refine lv_aload_n hx hb dX12_lookAtKinds_48 rfl (lv_at hl 1 rfl) ?_
          refine lv_iload_n hx hb dX12_lookAtKinds_49 rfl (lv_at hl 0 rfl) ?_
          refine lv_iconst (v := 0) hx hb dX12_lookAtKinds_50 (by decide) ?_
          refine ro_calli (va_runV (As := [.int y1_1, .int 0]) (rest := [.int y1_1, .ref (a 48)]) ⟨hx, hb, hml, hown, hts⟩ (s_X12_isOf l D H.size o a t i1 q1 (updA (updA c1 45 (y1_1 : Int32).toNatClampNeg 1) 47 (y1_1 : Int32).toNatClampNeg r15) d1 y1_1 0 hI (by have h91 : (0 : Int32).toInt = 0 := (by decide); omega)) (cwV 2 hts gm_X12_lookAtKinds_X12_isOf rfl rfl rfl (by decide +kernel) ⟨Nat.le_of_ble_eq_true rfl, Nat.le_of_ble_eq_true rfl⟩) (pA_V hK hP (ci := 12) (q0 := 0) rfl rfl) rfl rfl hl.1 rfl (lv_room (Nat.le_of_ble_eq_true rfl)) dX12_lookAtKinds_51 ⟨Nat.le_of_ble_eq_true rfl, Nat.le_of_ble_eq_true rfl⟩) hS hA hP (fun r16 u16 H locs hw16 hP hS => ?_)
          have hw16 : 0 ≤ r16.toInt ∧ r16.toInt ≤ 1 := hw16
          refine zast2 hx hb hK hP hD hS 31 30 rfl rfl (vp_in_iff.mpr (by have h9 : y1_1.toInt = y1_1.toInt := rfl; omega)) (nb_z (show 0 ≤ (r16 : Int32).toInt ∧ (r16 : Int32).toInt ≤ 1 from by omega)) dX12_lookAtKinds_54 (fun H locs hP hD hS => ?_)
          have hI := mInv_c hI (k := 48) (j := (y1_1 : Int32).toNatClampNeg) (x := r16) (show 0 ≤ (r16 : Int32).toInt ∧ (r16 : Int32).toInt ≤ 1 from by omega)
          have hfc := fr_c hfc (k := 48) (j := (y1_1 : Int32).toNatClampNeg) (x := r16) (by decide)
          have hP : va_P D vwCl (mW o a t i1 q1 (updA (updA (updA c1 45 (y1_1 : Int32).toNatClampNeg 1) 47 (y1_1 : Int32).toNatClampNeg r15) 48 (y1_1 : Int32).toNatClampNeg r16) d1) H := hP
          have hD : va_D A (mW o a t i1 q1 (updA (updA (updA c1 45 (y1_1 : Int32).toNatClampNeg 1) 47 (y1_1 : Int32).toNatClampNeg r15) 48 (y1_1 : Int32).toNatClampNeg r16) d1) := hD
          refine lv_aload_n hx hb dX12_lookAtKinds_55 rfl (lv_at hl 1 rfl) ?_
          refine va_get (D := D) (ci := 12) (v := .ref (a 49)) (C := RX12) (T := TX12) (N := 69) hx hb hts (fun _ h => List.mem_cons_of_mem _ (List.mem_append_right _ h)) hown hK hP 0 rfl rfl 49 (by decide) (hts (.fieldLink RX12 104 "TalePlayModel" "isDoor" "[Z") (by decide +kernel)) (fun _ h9 => h9) rfl dX12_lookAtKinds_56 ?_
          refine lv_iload_n hx hb dX12_lookAtKinds_59 rfl (lv_at hl 0 rfl) ?_
          refine lv_aload_n hx hb dX12_lookAtKinds_60 rfl (lv_at hl 1 rfl) ?_
          refine lv_iload_n hx hb dX12_lookAtKinds_61 rfl (lv_at hl 0 rfl) ?_
          refine lv_iconst (v := 2) hx hb dX12_lookAtKinds_62 (by decide) ?_
          refine ro_calli (va_runV (As := [.int y1_1, .int 2]) (rest := [.int y1_1, .ref (a 49)]) ⟨hx, hb, hml, hown, hts⟩ (s_X12_isOf l D H.size o a t i1 q1 (updA (updA (updA c1 45 (y1_1 : Int32).toNatClampNeg 1) 47 (y1_1 : Int32).toNatClampNeg r15) 48 (y1_1 : Int32).toNatClampNeg r16) d1 y1_1 2 hI (by have h91 : (2 : Int32).toInt = 2 := (by decide); omega)) (cwV 2 hts gm_X12_lookAtKinds_X12_isOf rfl rfl rfl (by decide +kernel) ⟨Nat.le_of_ble_eq_true rfl, Nat.le_of_ble_eq_true rfl⟩) (pA_V hK hP (ci := 12) (q0 := 0) rfl rfl) rfl rfl hl.1 rfl (lv_room (Nat.le_of_ble_eq_true rfl)) dX12_lookAtKinds_63 ⟨Nat.le_of_ble_eq_true rfl, Nat.le_of_ble_eq_true rfl⟩) hS hA hP (fun r17 u17 H locs hw17 hP hS => ?_)
          have hw17 : 0 ≤ r17.toInt ∧ r17.toInt ≤ 1 := hw17
          refine zast2 hx hb hK hP hD hS 32 31 rfl rfl (vp_in_iff.mpr (by have h9 : y1_1.toInt = y1_1.toInt := rfl; omega)) (nb_z (show 0 ≤ (r17 : Int32).toInt ∧ (r17 : Int32).toInt ≤ 1 from by omega)) dX12_lookAtKinds_66 (fun H locs hP hD hS => ?_)
          have hI := mInv_c hI (k := 49) (j := (y1_1 : Int32).toNatClampNeg) (x := r17) (show 0 ≤ (r17 : Int32).toInt ∧ (r17 : Int32).toInt ≤ 1 from by omega)
          have hfc := fr_c hfc (k := 49) (j := (y1_1 : Int32).toNatClampNeg) (x := r17) (by decide)
          have hP : va_P D vwCl (mW o a t i1 q1 (updA (updA (updA (updA c1 45 (y1_1 : Int32).toNatClampNeg 1) 47 (y1_1 : Int32).toNatClampNeg r15) 48 (y1_1 : Int32).toNatClampNeg r16) 49 (y1_1 : Int32).toNatClampNeg r17) d1) H := hP
          have hD : va_D A (mW o a t i1 q1 (updA (updA (updA (updA c1 45 (y1_1 : Int32).toNatClampNeg 1) 47 (y1_1 : Int32).toNatClampNeg r15) 48 (y1_1 : Int32).toNatClampNeg r16) 49 (y1_1 : Int32).toNatClampNeg r17) d1) := hD
          refine lv_aload_n hx hb dX12_lookAtKinds_67 rfl (lv_at hl 1 rfl) ?_
          refine va_get (D := D) (ci := 12) (v := .ref (a 46)) (C := RX12) (T := TX12) (N := 69) hx hb hts (fun _ h => List.mem_cons_of_mem _ (List.mem_append_right _ h)) hown hK hP 0 rfl rfl 46 (by decide) (hts (.fieldLink RX12 95 "TalePlayModel" "glass" "[Z") (by decide +kernel)) (fun _ h9 => h9) rfl dX12_lookAtKinds_68 ?_
          refine lv_iload_n hx hb dX12_lookAtKinds_71 rfl (lv_at hl 0 rfl) ?_
          refine lv_aload_n hx hb dX12_lookAtKinds_72 rfl (lv_at hl 1 rfl) ?_
          refine va_get (D := D) (ci := 12) (v := .ref (a 47)) (C := RX12) (T := TX12) (N := 69) hx hb hts (fun _ h => List.mem_cons_of_mem _ (List.mem_append_right _ h)) hown hK hP 0 rfl rfl 47 (by decide) (hts (.fieldLink RX12 98 "TalePlayModel" "isBox" "[Z") (by decide +kernel)) (fun _ h9 => h9) rfl dX12_lookAtKinds_73 ?_
          refine lv_iload_n hx hb dX12_lookAtKinds_76 rfl (lv_at hl 0 rfl) ?_
          refine va_zald hx hb hK hP 30 29 rfl rfl (vp_in_iff.mpr (by have h9 : y1_1.toInt = y1_1.toInt := rfl; omega)) dX12_lookAtKinds_77 ?_
          refine lv_topi (fun x18 ex18 => ?_)
          have rx18 : 0 ≤ x18.toInt ∧ x18.toInt ≤ 1 := by rw [ex18]; exact hI.2 47 _
          refine lv_if_eq (tgt := 95) hx hb dX12_lookAtKinds_78 (by decide) (fun c19 => ?_) (fun c19 => ?_)
          · have f19 := (ti_eq (a := x18.toInt) (b := 0) rfl (by decide)).mp c19
            refine lv_iconst (v := 0) hx hb dX12_lookAtKinds_95 (by decide) ?_
            refine zast2 hx hb hK hP hD hS 29 28 rfl rfl (vp_in_iff.mpr (by have h9 : y1_1.toInt = y1_1.toInt := rfl; omega)) (nb_z (show 0 ≤ (0 : Int32).toInt ∧ (0 : Int32).toInt ≤ 1 from by decide)) dX12_lookAtKinds_96 (fun H locs hP hD hS => ?_)
            have hI := mInv_c hI (k := 46) (j := (y1_1 : Int32).toNatClampNeg) (x := 0) (show 0 ≤ (0 : Int32).toInt ∧ (0 : Int32).toInt ≤ 1 from by decide)
            have hfc := fr_c hfc (k := 46) (j := (y1_1 : Int32).toNatClampNeg) (x := 0) (by decide)
            have hP : va_P D vwCl (mW o a t i1 q1 (updA (updA (updA (updA (updA c1 45 (y1_1 : Int32).toNatClampNeg 1) 47 (y1_1 : Int32).toNatClampNeg r15) 48 (y1_1 : Int32).toNatClampNeg r16) 49 (y1_1 : Int32).toNatClampNeg r17) 46 (y1_1 : Int32).toNatClampNeg 0) d1) H := hP
            have hD : va_D A (mW o a t i1 q1 (updA (updA (updA (updA (updA c1 45 (y1_1 : Int32).toNatClampNeg 1) 47 (y1_1 : Int32).toNatClampNeg r15) 48 (y1_1 : Int32).toNatClampNeg r16) 49 (y1_1 : Int32).toNatClampNeg r17) 46 (y1_1 : Int32).toNatClampNeg 0) d1) := hD
            obtain ⟨x20, ex20⟩ : ∃ y : Int32, y = y1_1 + 1 := ⟨_, rfl⟩
            have tx20 := ti_add (a := y1_1.toInt) (b := 1) ex20 rfl (by decide) (by omega) (by omega)
            refine lv_iinc (v := x20) (lv' := [(1, .int x20), (0, .ref o)]) hx hb dX12_lookAtKinds_97 hl (k := 0) rfl (by rw [ex20]; rfl) (by decide) rfl (fun ls hl => ?_)
            refine lv_goto (tgt := 2) hx hb dX12_lookAtKinds_100 (by decide) ?_
            exact ih i1 q1 (updA (updA (updA (updA (updA c1 45 (y1_1 : Int32).toNatClampNeg 1) 47 (y1_1 : Int32).toNatClampNeg r15) 48 (y1_1 : Int32).toNatClampNeg r16) 49 (y1_1 : Int32).toNatClampNeg r17) 46 (y1_1 : Int32).toNatClampNeg 0) d1 x20 hI hfi hfc (by have h81 : x20.toInt = (y1_1.toInt + 1) := tx20; omega) (by have h81 : x20.toInt = (y1_1.toInt + 1) := tx20; omega) _ _ _ hP hD hS (lv_sub hl [0, 1] rfl)
          · have f19 := mt (ti_eq (a := x18.toInt) (b := 0) rfl (by decide)).mpr c19
            refine lv_aload_n hx hb dX12_lookAtKinds_81 rfl (lv_at hl 1 rfl) ?_
            refine lv_iload_n hx hb dX12_lookAtKinds_82 rfl (lv_at hl 0 rfl) ?_
            refine lv_iconst (v := 5) hx hb dX12_lookAtKinds_83 (by decide) ?_
            refine ro_calli (va_runV (As := [.int y1_1, .int 5]) (rest := [.int y1_1, .ref (a 46)]) ⟨hx, hb, hml, hown, hts⟩ (s_X12_saidFlag l D H.size o a t i1 q1 (updA (updA (updA (updA c1 45 (y1_1 : Int32).toNatClampNeg 1) 47 (y1_1 : Int32).toNatClampNeg r15) 48 (y1_1 : Int32).toNatClampNeg r16) 49 (y1_1 : Int32).toNatClampNeg r17) d1 y1_1 5 hI (by have h91 : (5 : Int32).toInt = 5 := (by decide); omega) (by have h91 : (5 : Int32).toInt = 5 := (by decide); omega)) (cwV 2 hts gm_X12_lookAtKinds_X12_saidFlag rfl rfl rfl (by decide +kernel) ⟨Nat.le_of_ble_eq_true rfl, Nat.le_of_ble_eq_true rfl⟩) (pA_V hK hP (ci := 12) (q0 := 0) rfl rfl) rfl rfl hl.1 rfl (lv_room (Nat.le_of_ble_eq_true rfl)) dX12_lookAtKinds_84 ⟨Nat.le_of_ble_eq_true rfl, Nat.le_of_ble_eq_true rfl⟩) hS hA hP (fun r21 u21 H locs hw21 hP hS => ?_)
            have hw21 : r21.toInt = -9 ∨ (0 ≤ r21.toInt ∧ r21.toInt ≤ 1) := hw21
            refine lv_iconst (v := 1) hx hb dX12_lookAtKinds_87 (by decide) ?_
            refine lv_icmp_ne (tgt := 95) hx hb dX12_lookAtKinds_88 (by decide) (fun c22 => ?_) (fun c22 => ?_)
            · have f22 := mt (ti_eq (a := r21.toInt) (b := 1) rfl (by decide)).mpr c22
              refine lv_iconst (v := 0) hx hb dX12_lookAtKinds_95 (by decide) ?_
              refine zast2 hx hb hK hP hD hS 29 28 rfl rfl (vp_in_iff.mpr (by have h9 : y1_1.toInt = y1_1.toInt := rfl; omega)) (nb_z (show 0 ≤ (0 : Int32).toInt ∧ (0 : Int32).toInt ≤ 1 from by decide)) dX12_lookAtKinds_96 (fun H locs hP hD hS => ?_)
              have hI := mInv_c hI (k := 46) (j := (y1_1 : Int32).toNatClampNeg) (x := 0) (show 0 ≤ (0 : Int32).toInt ∧ (0 : Int32).toInt ≤ 1 from by decide)
              have hfc := fr_c hfc (k := 46) (j := (y1_1 : Int32).toNatClampNeg) (x := 0) (by decide)
              have hP : va_P D vwCl (mW o a t i1 q1 (updA (updA (updA (updA (updA c1 45 (y1_1 : Int32).toNatClampNeg 1) 47 (y1_1 : Int32).toNatClampNeg r15) 48 (y1_1 : Int32).toNatClampNeg r16) 49 (y1_1 : Int32).toNatClampNeg r17) 46 (y1_1 : Int32).toNatClampNeg 0) d1) H := hP
              have hD : va_D A (mW o a t i1 q1 (updA (updA (updA (updA (updA c1 45 (y1_1 : Int32).toNatClampNeg 1) 47 (y1_1 : Int32).toNatClampNeg r15) 48 (y1_1 : Int32).toNatClampNeg r16) 49 (y1_1 : Int32).toNatClampNeg r17) 46 (y1_1 : Int32).toNatClampNeg 0) d1) := hD
              obtain ⟨x23, ex23⟩ : ∃ y : Int32, y = y1_1 + 1 := ⟨_, rfl⟩
              have tx23 := ti_add (a := y1_1.toInt) (b := 1) ex23 rfl (by decide) (by omega) (by omega)
              refine lv_iinc (v := x23) (lv' := [(1, .int x23), (0, .ref o)]) hx hb dX12_lookAtKinds_97 hl (k := 0) rfl (by rw [ex23]; rfl) (by decide) rfl (fun ls hl => ?_)
              refine lv_goto (tgt := 2) hx hb dX12_lookAtKinds_100 (by decide) ?_
              exact ih i1 q1 (updA (updA (updA (updA (updA c1 45 (y1_1 : Int32).toNatClampNeg 1) 47 (y1_1 : Int32).toNatClampNeg r15) 48 (y1_1 : Int32).toNatClampNeg r16) 49 (y1_1 : Int32).toNatClampNeg r17) 46 (y1_1 : Int32).toNatClampNeg 0) d1 x23 hI hfi hfc (by have h81 : x23.toInt = (y1_1.toInt + 1) := tx23; omega) (by have h81 : x23.toInt = (y1_1.toInt + 1) := tx23; omega) _ _ _ hP hD hS (lv_sub hl [0, 1] rfl)
            · have f22 := (ti_eq (a := r21.toInt) (b := 1) rfl (by decide)).mp c22
              refine lv_iconst (v := 1) hx hb dX12_lookAtKinds_91 (by decide) ?_
              refine lv_goto (tgt := 96) hx hb dX12_lookAtKinds_92 (by decide) ?_
              refine zast2 hx hb hK hP hD hS 29 28 rfl rfl (vp_in_iff.mpr (by have h9 : y1_1.toInt = y1_1.toInt := rfl; omega)) (nb_z (show 0 ≤ (1 : Int32).toInt ∧ (1 : Int32).toInt ≤ 1 from by decide)) dX12_lookAtKinds_96 (fun H locs hP hD hS => ?_)
              have hI := mInv_c hI (k := 46) (j := (y1_1 : Int32).toNatClampNeg) (x := 1) (show 0 ≤ (1 : Int32).toInt ∧ (1 : Int32).toInt ≤ 1 from by decide)
              have hfc := fr_c hfc (k := 46) (j := (y1_1 : Int32).toNatClampNeg) (x := 1) (by decide)
              have hP : va_P D vwCl (mW o a t i1 q1 (updA (updA (updA (updA (updA c1 45 (y1_1 : Int32).toNatClampNeg 1) 47 (y1_1 : Int32).toNatClampNeg r15) 48 (y1_1 : Int32).toNatClampNeg r16) 49 (y1_1 : Int32).toNatClampNeg r17) 46 (y1_1 : Int32).toNatClampNeg 1) d1) H := hP
              have hD : va_D A (mW o a t i1 q1 (updA (updA (updA (updA (updA c1 45 (y1_1 : Int32).toNatClampNeg 1) 47 (y1_1 : Int32).toNatClampNeg r15) 48 (y1_1 : Int32).toNatClampNeg r16) 49 (y1_1 : Int32).toNatClampNeg r17) 46 (y1_1 : Int32).toNatClampNeg 1) d1) := hD
              obtain ⟨x24, ex24⟩ : ∃ y : Int32, y = y1_1 + 1 := ⟨_, rfl⟩
              have tx24 := ti_add (a := y1_1.toInt) (b := 1) ex24 rfl (by decide) (by omega) (by omega)
              refine lv_iinc (v := x24) (lv' := [(1, .int x24), (0, .ref o)]) hx hb dX12_lookAtKinds_97 hl (k := 0) rfl (by rw [ex24]; rfl) (by decide) rfl (fun ls hl => ?_)
              refine lv_goto (tgt := 2) hx hb dX12_lookAtKinds_100 (by decide) ?_
              exact ih i1 q1 (updA (updA (updA (updA (updA c1 45 (y1_1 : Int32).toNatClampNeg 1) 47 (y1_1 : Int32).toNatClampNeg r15) 48 (y1_1 : Int32).toNatClampNeg r16) 49 (y1_1 : Int32).toNatClampNeg r17) 46 (y1_1 : Int32).toNatClampNeg 1) d1 x24 hI hfi hfc (by have h81 : x24.toInt = (y1_1.toInt + 1) := tx24; omega) (by have h81 : x24.toInt = (y1_1.toInt + 1) := tx24; omega) _ _ _ hP hD hS (lv_sub hl [0, 1] rfl)
  exact lp1 _ i q c d (0 : Int32) hI hfi hfc (by have h81 : (0 : Int32).toInt = 0 := (by decide); omega) (Nat.lt_succ_self _) _ _ _ hP hD hS (lv_sub hl [0, 1] rfl)

def wm_X12_keepState : List Cond := .code yX12_keepState cX12_keepState 3 none :: (([.fieldLink RX12 177 "TalePlayModel" "objects" "I", .fieldLink RX12 107 "TalePlayModel" "stateForm" "[B", .fieldLink RX12 50 "TalePlayModel" "nForm" "[I", .fieldLink RX12 111 "TalePlayModel" "stateAt" "[B", .fieldLink RX12 53 "TalePlayModel" "nAt" "[I", .fieldLink RX12 114 "TalePlayModel" "stateShut" "[B", .fieldLink RX12 56 "TalePlayModel" "nOpen" "[Z", .fieldLink RX12 59 "TalePlayModel" "nLocked" "[Z"] : List Cond) ++ wsX120)
set_option maxHeartbeats 4000000 in
set_option maxRecDepth 100000 in
theorem s_X12_keepState (l : Launch) (D : va_G) (sz : Nat) (o : Nat) (a : Nat → Nat) (t : Nat → ClassId) (i : Nat → Int32) (q : Int64) (c : Nat → Nat → Int32) (d : Nat → Nat → Int64) (s1 : Int32) (hI : mInv i c) (hs1 : 0 ≤ s1.toInt ∧ s1.toInt ≤ 300) : Met l yX12_keepState wm_X12_keepState ({ frames := 0, cells := 0, slots := 0, locals := 0 }) (va_Pc [.ref o, .int s1] (pB D sz (mW o a t i q c d) (mT t))) (va_Qv (fun (u : MS) => True ∧ mInv u.1 u.2.2.1 ∧ (∀ k, k ∉ ([] : List Nat) → u.1 k = i k) ∧ (∀ k, k ∉ ([51, 52, 53] : List Nat) → u.2.2.1 k = c k)) (oC D (va_A (mW o a t i q c d) sz) (fun u : MS => mW o a t u.1 u.2.1 u.2.2.1 u.2.2.2) (fun _ => [])) (va_A (mW o a t i q c d) sz)) 0 0 (va_A (mW o a t i q c d) sz) := by
  refine Met.ofW (cc := cX12_keepState) (maxL := 3) (ret := none) (by decide) rfl ?_
  intro p e s m args below meth cd s₁ B hml hv
  obtain ⟨rfl, hsz, hP, hK, hD0⟩ := hv
  have hx := B.exec
  have hb := B.bytes
  have hr := B.returns
  have hts := atoms_spec (ws := wm_X12_keepState) B.pre
  have hown : s.vm.findClass RX12 = some m.cls := findClass_of_methodNamed B.named
  have hlocks := B.notSynchronized
  subst hsz
  have hD := hD0.self (sz := s.heap.size)
  generalize hAe : va_A (mW o a t i q c d) s.heap.size = A at hD ⊢
  have hA : ∀ q : Nat, s.heap.size ≤ q → A q := fun q h => by rw [← hAe]; exact Or.inr h
  have hS : va_S A s.heap s.heap [] := va_S.rf
  have hfi : ∀ k, k ∉ ([] : List Nat) → i k = i k := fun _ _ => rfl
  have hfc : ∀ k, k ∉ ([51, 52, 53] : List Nat) → c k = c k := fun _ _ => rfl
  have hl := lv_entry ([.ref o, .int s1]) (n := 3) (Nat.le_of_ble_eq_true rfl)
  rw [lg_entry_eq]
  generalize (lg_sl ([.ref o, .int s1]) ++ List.replicate (3 - (lg_sl ([.ref o, .int s1])).length) Slot.unset).toArray = ls at hl ⊢
  have hl : lv_has ls 3 [(0, .ref o), (1, .int s1)] := hl
  refine lv_iconst (v := 0) hx hb dX12_keepState_0 (by decide) ?_
  refine lv_istore_n (lv' := [(2, .int 0), (0, .ref o), (1, .int s1)]) hx hb dX12_keepState_1 rfl hl (by decide) rfl (fun ls hl => ?_)
  have lp1 : ∀ (fu : Nat) (i1 : Nat → Int32) (q1 : Int64) (c1 : Nat → Nat → Int32) (d1 : Nat → Nat → Int64) (y1_2 : Int32), mInv i1 c1 → (∀ k, k ∉ ([] : List Nat) → i1 k = i k) → (∀ k, k ∉ ([51, 52, 53] : List Nat) → c1 k = c k) → (0 ≤ y1_2.toInt ∧ y1_2.toInt ≤ 30) → (30 - y1_2.toInt).toNat < fu → ∀ (H : Heap) (locs : List Loc) (ls : Array Slot), va_P D vwCl (mW o a t i1 q1 c1 d1) H → va_D A (mW o a t i1 q1 c1 d1) → va_S A s.heap H locs → lv_has ls 3 [(2, .int y1_2), (0, .ref o), (1, .int s1)] → W p l e (headSpec wm_X12_keepState ({ frames := 0, cells := 0, slots := 0, locals := 0 })).room s m ([.ref o, .int s1] : List Value).toArray below meth cd H locs 0 0 (MQ below (va_Qv (fun (u : MS) => True ∧ mInv u.1 u.2.2.1 ∧ (∀ k, k ∉ ([] : List Nat) → u.1 k = i k) ∧ (∀ k, k ∉ ([51, 52, 53] : List Nat) → u.2.2.1 k = c k)) (oC D A (fun u : MS => mW o a t u.1 u.2.1 u.2.2.1 u.2.2.2) (fun _ => [])) A) ([.ref o, .int s1] : List Value).toArray s 0 0 A) (F0 m 2 ls []) := by
    intro fu
    induction fu with
    | zero => intro i1 q1 c1 d1 y1_2 hI hfi hfc hy1_2 hm; exact absurd hm (Nat.not_lt_zero _)
    | succ fu ih =>
      intro i1 q1 c1 d1 y1_2 hI hfi hfc hy1_2 hm H locs ls hP hD hS hl
      refine lv_iload_n hx hb dX12_keepState_2 rfl (lv_at hl 0 rfl) ?_
      refine lv_aload_n hx hb dX12_keepState_3 rfl (lv_at hl 1 rfl) ?_
      refine va_get (D := D) (ci := 12) (v := .int (i1 5)) (C := RX12) (T := TX12) (N := 69) hx hb hts (fun _ h => List.mem_cons_of_mem _ (List.mem_append_right _ h)) hown hK hP 0 rfl rfl 5 (by decide) (hts (.fieldLink RX12 177 "TalePlayModel" "objects" "I") (by decide +kernel)) (fun _ h9 => h9) rfl dX12_keepState_4 ?_
      have rb5_i1 : 0 ≤ (i1 5).toInt ∧ (i1 5).toInt ≤ 30 := hI.1 5
      refine lv_icmp_ge (tgt := 93) hx hb dX12_keepState_7 (by decide) (fun c2 => ?_) (fun c2 => ?_)
      · have f2 := (ti_le (a := (i1 5).toInt) (b := y1_2.toInt) rfl rfl).mp c2
        exact rw_vret (i1, q1, c1, d1) hx hb hr hlocks hS (hK.sub (tys' := []) [] rfl) hP hD dX12_keepState_93 ⟨trivial, hI, hfi, hfc⟩
      · have f2 := mt (ti_le (a := (i1 5).toInt) (b := y1_2.toInt) rfl rfl).mpr c2
        refine lv_aload_n hx hb dX12_keepState_10 rfl (lv_at hl 1 rfl) ?_
        refine va_get (D := D) (ci := 12) (v := .ref (a 51)) (C := RX12) (T := TX12) (N := 69) hx hb hts (fun _ h => List.mem_cons_of_mem _ (List.mem_append_right _ h)) hown hK hP 0 rfl rfl 51 (by decide) (hts (.fieldLink RX12 107 "TalePlayModel" "stateForm" "[B") (by decide +kernel)) (fun _ h9 => h9) rfl dX12_keepState_11 ?_
        refine lv_bipush (v := 30) hx hb dX12_keepState_14 (by decide) ?_
        refine lv_iload_n hx hb dX12_keepState_16 rfl (lv_at hl 2 rfl) ?_
        refine lv_imul hx hb dX12_keepState_17 ?_
        refine lv_topi (fun x3 ex3 => ?_)
        have tx3 := ti_mul (a := 30) (b := s1.toInt) ex3 (by decide) rfl (by omega) (by omega)
        refine lv_iload_n hx hb dX12_keepState_18 rfl (lv_at hl 0 rfl) ?_
        refine lv_iadd hx hb dX12_keepState_19 ?_
        refine lv_topi (fun x4 ex4 => ?_)
        have tx4 := ti_add (a := (30 * s1.toInt)) (b := y1_2.toInt) ex4 tx3 rfl (by omega) (by omega)
        refine lv_aload_n hx hb dX12_keepState_20 rfl (lv_at hl 1 rfl) ?_
        refine va_get (D := D) (ci := 12) (v := .ref (a 23)) (C := RX12) (T := TX12) (N := 69) hx hb hts (fun _ h => List.mem_cons_of_mem _ (List.mem_append_right _ h)) hown hK hP 0 rfl rfl 23 (by decide) (hts (.fieldLink RX12 50 "TalePlayModel" "nForm" "[I") (by decide +kernel)) (fun _ h9 => h9) rfl dX12_keepState_21 ?_
        refine lv_iload_n hx hb dX12_keepState_24 rfl (lv_at hl 0 rfl) ?_
        refine va_iald hx hb hK hP 14 13 rfl rfl (vp_in_iff.mpr (by have h9 : y1_2.toInt = y1_2.toInt := rfl; omega)) dX12_keepState_25 ?_
        refine lv_topi (fun x5 ex5 => ?_)
        have rx5 : x5.toInt = -9 ∨ (0 ≤ x5.toInt ∧ x5.toInt ≤ 4) := by rw [ex5]; exact hI.2 23 _
        refine lv_i2b (v := x5) hx hb dX12_keepState_26 (nb_i (show -128 ≤ (x5 : Int32).toInt ∧ (x5 : Int32).toInt ≤ 127 from by omega)) ?_
        refine bast2 hx hb hK hP hD hS 33 32 rfl rfl (vp_in_iff.mpr (by have h9 : x4.toInt = ((30 * s1.toInt) + y1_2.toInt) := tx4; omega)) (nb_b (show -128 ≤ (x5 : Int32).toInt ∧ (x5 : Int32).toInt ≤ 127 from by omega)) dX12_keepState_27 (fun H locs hP hD hS => ?_)
        have hI := mInv_c hI (k := 51) (j := (x4 : Int32).toNatClampNeg) (x := x5) (show (x5 : Int32).toInt = -9 ∨ (0 ≤ (x5 : Int32).toInt ∧ (x5 : Int32).toInt ≤ 4) from by omega)
        have hfc := fr_c hfc (k := 51) (j := (x4 : Int32).toNatClampNeg) (x := x5) (by decide)
        have hP : va_P D vwCl (mW o a t i1 q1 (updA c1 51 (x4 : Int32).toNatClampNeg x5) d1) H := hP
        have hD : va_D A (mW o a t i1 q1 (updA c1 51 (x4 : Int32).toNatClampNeg x5) d1) := hD
        refine lv_aload_n hx hb dX12_keepState_28 rfl (lv_at hl 1 rfl) ?_
        refine va_get (D := D) (ci := 12) (v := .ref (a 52)) (C := RX12) (T := TX12) (N := 69) hx hb hts (fun _ h => List.mem_cons_of_mem _ (List.mem_append_right _ h)) hown hK hP 0 rfl rfl 52 (by decide) (hts (.fieldLink RX12 111 "TalePlayModel" "stateAt" "[B") (by decide +kernel)) (fun _ h9 => h9) rfl dX12_keepState_29 ?_
        refine lv_bipush (v := 30) hx hb dX12_keepState_32 (by decide) ?_
        refine lv_iload_n hx hb dX12_keepState_34 rfl (lv_at hl 2 rfl) ?_
        refine lv_imul hx hb dX12_keepState_35 ?_
        refine lv_topi (fun x6 ex6 => ?_)
        have tx6 := ti_mul (a := 30) (b := s1.toInt) ex6 (by decide) rfl (by omega) (by omega)
        refine lv_iload_n hx hb dX12_keepState_36 rfl (lv_at hl 0 rfl) ?_
        refine lv_iadd hx hb dX12_keepState_37 ?_
        refine lv_topi (fun x7 ex7 => ?_)
        have tx7 := ti_add (a := (30 * s1.toInt)) (b := y1_2.toInt) ex7 tx6 rfl (by omega) (by omega)
        refine lv_aload_n hx hb dX12_keepState_38 rfl (lv_at hl 1 rfl) ?_
        refine va_get (D := D) (ci := 12) (v := .ref (a 24)) (C := RX12) (T := TX12) (N := 69) hx hb hts (fun _ h => List.mem_cons_of_mem _ (List.mem_append_right _ h)) hown hK hP 0 rfl rfl 24 (by decide) (hts (.fieldLink RX12 53 "TalePlayModel" "nAt" "[I") (by decide +kernel)) (fun _ h9 => h9) rfl dX12_keepState_39 ?_
        refine lv_iload_n hx hb dX12_keepState_42 rfl (lv_at hl 0 rfl) ?_
        refine va_iald hx hb hK hP 15 14 rfl rfl (vp_in_iff.mpr (by have h9 : y1_2.toInt = y1_2.toInt := rfl; omega)) dX12_keepState_43 ?_
        refine lv_topi (fun x8 ex8 => ?_)
        have rx8 : x8.toInt = -9 ∨ (0 ≤ x8.toInt ∧ x8.toInt ≤ 29) := by rw [ex8]; exact hI.2 24 _
        refine lv_i2b (v := x8) hx hb dX12_keepState_44 (nb_i (show -128 ≤ (x8 : Int32).toInt ∧ (x8 : Int32).toInt ≤ 127 from by omega)) ?_
        refine bast2 hx hb hK hP hD hS 34 33 rfl rfl (vp_in_iff.mpr (by have h9 : x7.toInt = ((30 * s1.toInt) + y1_2.toInt) := tx7; omega)) (nb_b (show -128 ≤ (x8 : Int32).toInt ∧ (x8 : Int32).toInt ≤ 127 from by omega)) dX12_keepState_45 (fun H locs hP hD hS => ?_)
        have hI := mInv_c hI (k := 52) (j := (x7 : Int32).toNatClampNeg) (x := x8) (show (x8 : Int32).toInt = -9 ∨ (0 ≤ (x8 : Int32).toInt ∧ (x8 : Int32).toInt ≤ 29) from by omega)
        have hfc := fr_c hfc (k := 52) (j := (x7 : Int32).toNatClampNeg) (x := x8) (by decide)
        have hP : va_P D vwCl (mW o a t i1 q1 (updA (updA c1 51 (x4 : Int32).toNatClampNeg x5) 52 (x7 : Int32).toNatClampNeg x8) d1) H := hP
        have hD : va_D A (mW o a t i1 q1 (updA (updA c1 51 (x4 : Int32).toNatClampNeg x5) 52 (x7 : Int32).toNatClampNeg x8) d1) := hD
        refine lv_aload_n hx hb dX12_keepState_46 rfl (lv_at hl 1 rfl) ?_
        refine va_get (D := D) (ci := 12) (v := .ref (a 53)) (C := RX12) (T := TX12) (N := 69) hx hb hts (fun _ h => List.mem_cons_of_mem _ (List.mem_append_right _ h)) hown hK hP 0 rfl rfl 53 (by decide) (hts (.fieldLink RX12 114 "TalePlayModel" "stateShut" "[B") (by decide +kernel)) (fun _ h9 => h9) rfl dX12_keepState_47 ?_
        refine lv_bipush (v := 30) hx hb dX12_keepState_50 (by decide) ?_
        refine lv_iload_n hx hb dX12_keepState_52 rfl (lv_at hl 2 rfl) ?_
        refine lv_imul hx hb dX12_keepState_53 ?_
        refine lv_topi (fun x9 ex9 => ?_)
        have tx9 := ti_mul (a := 30) (b := s1.toInt) ex9 (by decide) rfl (by omega) (by omega)
        refine lv_iload_n hx hb dX12_keepState_54 rfl (lv_at hl 0 rfl) ?_
        refine lv_iadd hx hb dX12_keepState_55 ?_
        refine lv_topi (fun x10 ex10 => ?_)
        have tx10 := ti_add (a := (30 * s1.toInt)) (b := y1_2.toInt) ex10 tx9 rfl (by omega) (by omega)
        refine lv_aload_n hx hb dX12_keepState_56 rfl (lv_at hl 1 rfl) ?_
        refine va_get (D := D) (ci := 12) (v := .ref (a 25)) (C := RX12) (T := TX12) (N := 69) hx hb hts (fun _ h => List.mem_cons_of_mem _ (List.mem_append_right _ h)) hown hK hP 0 rfl rfl 25 (by decide) (hts (.fieldLink RX12 56 "TalePlayModel" "nOpen" "[Z") (by decide +kernel)) (fun _ h9 => h9) rfl dX12_keepState_57 ?_
        refine lv_iload_n hx hb dX12_keepState_60 rfl (lv_at hl 0 rfl) ?_
        refine va_zald hx hb hK hP 16 15 rfl rfl (vp_in_iff.mpr (by have h9 : y1_2.toInt = y1_2.toInt := rfl; omega)) dX12_keepState_61 ?_
        refine lv_topi (fun x11 ex11 => ?_)
        have rx11 : 0 ≤ x11.toInt ∧ x11.toInt ≤ 1 := by rw [ex11]; exact hI.2 25 _
        refine lv_if_eq (tgt := 69) hx hb dX12_keepState_62 (by decide) (fun c12 => ?_) (fun c12 => ?_)
        · have f12 := (ti_eq (a := x11.toInt) (b := 0) rfl (by decide)).mp c12
          refine lv_iconst (v := 0) hx hb dX12_keepState_69 (by decide) ?_
          refine lv_aload_n hx hb dX12_keepState_70 rfl (lv_at hl 1 rfl) ?_
          refine va_get (D := D) (ci := 12) (v := .ref (a 26)) (C := RX12) (T := TX12) (N := 69) hx hb hts (fun _ h => List.mem_cons_of_mem _ (List.mem_append_right _ h)) hown hK hP 0 rfl rfl 26 (by decide) (hts (.fieldLink RX12 59 "TalePlayModel" "nLocked" "[Z") (by decide +kernel)) (fun _ h9 => h9) rfl dX12_keepState_71 ?_
          refine lv_iload_n hx hb dX12_keepState_74 rfl (lv_at hl 0 rfl) ?_
          refine va_zald hx hb hK hP 17 16 rfl rfl (vp_in_iff.mpr (by have h9 : y1_2.toInt = y1_2.toInt := rfl; omega)) dX12_keepState_75 ?_
          refine lv_topi (fun x13 ex13 => ?_)
          have rx13 : 0 ≤ x13.toInt ∧ x13.toInt ≤ 1 := by rw [ex13]; exact hI.2 26 _
          refine lv_if_eq (tgt := 83) hx hb dX12_keepState_76 (by decide) (fun c14 => ?_) (fun c14 => ?_)
          · have f14 := (ti_eq (a := x13.toInt) (b := 0) rfl (by decide)).mp c14
            refine lv_iconst (v := 0) hx hb dX12_keepState_83 (by decide) ?_
            refine lv_iadd hx hb dX12_keepState_84 ?_
            refine tp_i (y := 0) (by decide) ?_
            refine lv_i2b (v := 0) hx hb dX12_keepState_85 (by decide) ?_
            refine bast2 hx hb hK hP hD hS 35 34 rfl rfl (vp_in_iff.mpr (by have h9 : x10.toInt = ((30 * s1.toInt) + y1_2.toInt) := tx10; omega)) (nb_b (show -128 ≤ (0 : Int32).toInt ∧ (0 : Int32).toInt ≤ 127 from by decide)) dX12_keepState_86 (fun H locs hP hD hS => ?_)
            have hI := mInv_c hI (k := 53) (j := (x10 : Int32).toNatClampNeg) (x := 0) (show 0 ≤ (0 : Int32).toInt ∧ (0 : Int32).toInt ≤ 3 from by decide)
            have hfc := fr_c hfc (k := 53) (j := (x10 : Int32).toNatClampNeg) (x := 0) (by decide)
            have hP : va_P D vwCl (mW o a t i1 q1 (updA (updA (updA c1 51 (x4 : Int32).toNatClampNeg x5) 52 (x7 : Int32).toNatClampNeg x8) 53 (x10 : Int32).toNatClampNeg 0) d1) H := hP
            have hD : va_D A (mW o a t i1 q1 (updA (updA (updA c1 51 (x4 : Int32).toNatClampNeg x5) 52 (x7 : Int32).toNatClampNeg x8) 53 (x10 : Int32).toNatClampNeg 0) d1) := hD
            obtain ⟨x15, ex15⟩ : ∃ y : Int32, y = y1_2 + 1 := ⟨_, rfl⟩
            have tx15 := ti_add (a := y1_2.toInt) (b := 1) ex15 rfl (by decide) (by omega) (by omega)
            refine lv_iinc (v := x15) (lv' := [(2, .int x15), (0, .ref o), (1, .int s1)]) hx hb dX12_keepState_87 hl (k := 0) rfl (by rw [ex15]; rfl) (by decide) rfl (fun ls hl => ?_)
            refine lv_goto (tgt := 2) hx hb dX12_keepState_90 (by decide) ?_
            exact ih i1 q1 (updA (updA (updA c1 51 (x4 : Int32).toNatClampNeg x5) 52 (x7 : Int32).toNatClampNeg x8) 53 (x10 : Int32).toNatClampNeg 0) d1 x15 hI hfi hfc (by have h82 : x15.toInt = (y1_2.toInt + 1) := tx15; omega) (by have h82 : x15.toInt = (y1_2.toInt + 1) := tx15; omega) _ _ _ hP hD hS (lv_sub hl [0, 1, 2] rfl)
          · have f14 := mt (ti_eq (a := x13.toInt) (b := 0) rfl (by decide)).mpr c14
            refine lv_iconst (v := 2) hx hb dX12_keepState_79 (by decide) ?_
            refine lv_goto (tgt := 84) hx hb dX12_keepState_80 (by decide) ?_
            refine lv_iadd hx hb dX12_keepState_84 ?_
            refine tp_i (y := 2) (by decide) ?_
            refine lv_i2b (v := 2) hx hb dX12_keepState_85 (by decide) ?_
            refine bast2 hx hb hK hP hD hS 35 34 rfl rfl (vp_in_iff.mpr (by have h9 : x10.toInt = ((30 * s1.toInt) + y1_2.toInt) := tx10; omega)) (nb_b (show -128 ≤ (2 : Int32).toInt ∧ (2 : Int32).toInt ≤ 127 from by decide)) dX12_keepState_86 (fun H locs hP hD hS => ?_)
            have hI := mInv_c hI (k := 53) (j := (x10 : Int32).toNatClampNeg) (x := 2) (show 0 ≤ (2 : Int32).toInt ∧ (2 : Int32).toInt ≤ 3 from by decide)
            have hfc := fr_c hfc (k := 53) (j := (x10 : Int32).toNatClampNeg) (x := 2) (by decide)
            have hP : va_P D vwCl (mW o a t i1 q1 (updA (updA (updA c1 51 (x4 : Int32).toNatClampNeg x5) 52 (x7 : Int32).toNatClampNeg x8) 53 (x10 : Int32).toNatClampNeg 2) d1) H := hP
            have hD : va_D A (mW o a t i1 q1 (updA (updA (updA c1 51 (x4 : Int32).toNatClampNeg x5) 52 (x7 : Int32).toNatClampNeg x8) 53 (x10 : Int32).toNatClampNeg 2) d1) := hD
            obtain ⟨x16, ex16⟩ : ∃ y : Int32, y = y1_2 + 1 := ⟨_, rfl⟩
            have tx16 := ti_add (a := y1_2.toInt) (b := 1) ex16 rfl (by decide) (by omega) (by omega)
            refine lv_iinc (v := x16) (lv' := [(2, .int x16), (0, .ref o), (1, .int s1)]) hx hb dX12_keepState_87 hl (k := 0) rfl (by rw [ex16]; rfl) (by decide) rfl (fun ls hl => ?_)
            refine lv_goto (tgt := 2) hx hb dX12_keepState_90 (by decide) ?_
            exact ih i1 q1 (updA (updA (updA c1 51 (x4 : Int32).toNatClampNeg x5) 52 (x7 : Int32).toNatClampNeg x8) 53 (x10 : Int32).toNatClampNeg 2) d1 x16 hI hfi hfc (by have h82 : x16.toInt = (y1_2.toInt + 1) := tx16; omega) (by have h82 : x16.toInt = (y1_2.toInt + 1) := tx16; omega) _ _ _ hP hD hS (lv_sub hl [0, 1, 2] rfl)
        · have f12 := mt (ti_eq (a := x11.toInt) (b := 0) rfl (by decide)).mpr c12
          refine lv_iconst (v := 1) hx hb dX12_keepState_65 (by decide) ?_
          refine lv_goto (tgt := 70) hx hb dX12_keepState_66 (by decide) ?_
          refine lv_aload_n hx hb dX12_keepState_70 rfl (lv_at hl 1 rfl) ?_
          refine va_get (D := D) (ci := 12) (v := .ref (a 26)) (C := RX12) (T := TX12) (N := 69) hx hb hts (fun _ h => List.mem_cons_of_mem _ (List.mem_append_right _ h)) hown hK hP 0 rfl rfl 26 (by decide) (hts (.fieldLink RX12 59 "TalePlayModel" "nLocked" "[Z") (by decide +kernel)) (fun _ h9 => h9) rfl dX12_keepState_71 ?_
          refine lv_iload_n hx hb dX12_keepState_74 rfl (lv_at hl 0 rfl) ?_
          refine va_zald hx hb hK hP 17 16 rfl rfl (vp_in_iff.mpr (by have h9 : y1_2.toInt = y1_2.toInt := rfl; omega)) dX12_keepState_75 ?_
          refine lv_topi (fun x17 ex17 => ?_)
          have rx17 : 0 ≤ x17.toInt ∧ x17.toInt ≤ 1 := by rw [ex17]; exact hI.2 26 _
          refine lv_if_eq (tgt := 83) hx hb dX12_keepState_76 (by decide) (fun c18 => ?_) (fun c18 => ?_)
          · have f18 := (ti_eq (a := x17.toInt) (b := 0) rfl (by decide)).mp c18
            refine lv_iconst (v := 0) hx hb dX12_keepState_83 (by decide) ?_
            refine lv_iadd hx hb dX12_keepState_84 ?_
            refine tp_i (y := 1) (by decide) ?_
            refine lv_i2b (v := 1) hx hb dX12_keepState_85 (by decide) ?_
            refine bast2 hx hb hK hP hD hS 35 34 rfl rfl (vp_in_iff.mpr (by have h9 : x10.toInt = ((30 * s1.toInt) + y1_2.toInt) := tx10; omega)) (nb_b (show -128 ≤ (1 : Int32).toInt ∧ (1 : Int32).toInt ≤ 127 from by decide)) dX12_keepState_86 (fun H locs hP hD hS => ?_)
            have hI := mInv_c hI (k := 53) (j := (x10 : Int32).toNatClampNeg) (x := 1) (show 0 ≤ (1 : Int32).toInt ∧ (1 : Int32).toInt ≤ 3 from by decide)
            have hfc := fr_c hfc (k := 53) (j := (x10 : Int32).toNatClampNeg) (x := 1) (by decide)
            have hP : va_P D vwCl (mW o a t i1 q1 (updA (updA (updA c1 51 (x4 : Int32).toNatClampNeg x5) 52 (x7 : Int32).toNatClampNeg x8) 53 (x10 : Int32).toNatClampNeg 1) d1) H := hP
            have hD : va_D A (mW o a t i1 q1 (updA (updA (updA c1 51 (x4 : Int32).toNatClampNeg x5) 52 (x7 : Int32).toNatClampNeg x8) 53 (x10 : Int32).toNatClampNeg 1) d1) := hD
            obtain ⟨x19, ex19⟩ : ∃ y : Int32, y = y1_2 + 1 := ⟨_, rfl⟩
            have tx19 := ti_add (a := y1_2.toInt) (b := 1) ex19 rfl (by decide) (by omega) (by omega)
            refine lv_iinc (v := x19) (lv' := [(2, .int x19), (0, .ref o), (1, .int s1)]) hx hb dX12_keepState_87 hl (k := 0) rfl (by rw [ex19]; rfl) (by decide) rfl (fun ls hl => ?_)
            refine lv_goto (tgt := 2) hx hb dX12_keepState_90 (by decide) ?_
            exact ih i1 q1 (updA (updA (updA c1 51 (x4 : Int32).toNatClampNeg x5) 52 (x7 : Int32).toNatClampNeg x8) 53 (x10 : Int32).toNatClampNeg 1) d1 x19 hI hfi hfc (by have h82 : x19.toInt = (y1_2.toInt + 1) := tx19; omega) (by have h82 : x19.toInt = (y1_2.toInt + 1) := tx19; omega) _ _ _ hP hD hS (lv_sub hl [0, 1, 2] rfl)
          · have f18 := mt (ti_eq (a := x17.toInt) (b := 0) rfl (by decide)).mpr c18
            refine lv_iconst (v := 2) hx hb dX12_keepState_79 (by decide) ?_
            refine lv_goto (tgt := 84) hx hb dX12_keepState_80 (by decide) ?_
            refine lv_iadd hx hb dX12_keepState_84 ?_
            refine tp_i (y := 3) (by decide) ?_
            refine lv_i2b (v := 3) hx hb dX12_keepState_85 (by decide) ?_
            refine bast2 hx hb hK hP hD hS 35 34 rfl rfl (vp_in_iff.mpr (by have h9 : x10.toInt = ((30 * s1.toInt) + y1_2.toInt) := tx10; omega)) (nb_b (show -128 ≤ (3 : Int32).toInt ∧ (3 : Int32).toInt ≤ 127 from by decide)) dX12_keepState_86 (fun H locs hP hD hS => ?_)
            have hI := mInv_c hI (k := 53) (j := (x10 : Int32).toNatClampNeg) (x := 3) (show 0 ≤ (3 : Int32).toInt ∧ (3 : Int32).toInt ≤ 3 from by decide)
            have hfc := fr_c hfc (k := 53) (j := (x10 : Int32).toNatClampNeg) (x := 3) (by decide)
            have hP : va_P D vwCl (mW o a t i1 q1 (updA (updA (updA c1 51 (x4 : Int32).toNatClampNeg x5) 52 (x7 : Int32).toNatClampNeg x8) 53 (x10 : Int32).toNatClampNeg 3) d1) H := hP
            have hD : va_D A (mW o a t i1 q1 (updA (updA (updA c1 51 (x4 : Int32).toNatClampNeg x5) 52 (x7 : Int32).toNatClampNeg x8) 53 (x10 : Int32).toNatClampNeg 3) d1) := hD
            obtain ⟨x20, ex20⟩ : ∃ y : Int32, y = y1_2 + 1 := ⟨_, rfl⟩
            have tx20 := ti_add (a := y1_2.toInt) (b := 1) ex20 rfl (by decide) (by omega) (by omega)
            refine lv_iinc (v := x20) (lv' := [(2, .int x20), (0, .ref o), (1, .int s1)]) hx hb dX12_keepState_87 hl (k := 0) rfl (by rw [ex20]; rfl) (by decide) rfl (fun ls hl => ?_)
            refine lv_goto (tgt := 2) hx hb dX12_keepState_90 (by decide) ?_
            exact ih i1 q1 (updA (updA (updA c1 51 (x4 : Int32).toNatClampNeg x5) 52 (x7 : Int32).toNatClampNeg x8) 53 (x10 : Int32).toNatClampNeg 3) d1 x20 hI hfi hfc (by have h82 : x20.toInt = (y1_2.toInt + 1) := tx20; omega) (by have h82 : x20.toInt = (y1_2.toInt + 1) := tx20; omega) _ _ _ hP hD hS (lv_sub hl [0, 1, 2] rfl)
  exact lp1 _ i q c d (0 : Int32) hI hfi hfc (by have h82 : (0 : Int32).toInt = 0 := (by decide); omega) (Nat.lt_succ_self _) _ _ _ hP hD hS (lv_sub hl [0, 1, 2] rfl)

def wm_X12_giveState : List Cond := .code yX12_giveState cX12_giveState 3 none :: (([.fieldLink RX12 177 "TalePlayModel" "objects" "I", .fieldLink RX12 50 "TalePlayModel" "nForm" "[I", .fieldLink RX12 107 "TalePlayModel" "stateForm" "[B", .fieldLink RX12 53 "TalePlayModel" "nAt" "[I", .fieldLink RX12 111 "TalePlayModel" "stateAt" "[B", .fieldLink RX12 56 "TalePlayModel" "nOpen" "[Z", .fieldLink RX12 114 "TalePlayModel" "stateShut" "[B", .fieldLink RX12 59 "TalePlayModel" "nLocked" "[Z"] : List Cond) ++ wsX120)
set_option maxHeartbeats 4000000 in
set_option maxRecDepth 100000 in
theorem s_X12_giveState (l : Launch) (D : va_G) (sz : Nat) (o : Nat) (a : Nat → Nat) (t : Nat → ClassId) (i : Nat → Int32) (q : Int64) (c : Nat → Nat → Int32) (d : Nat → Nat → Int64) (s1 : Int32) (hI : mInv i c) (hs1 : 0 ≤ s1.toInt ∧ s1.toInt ≤ 300) : Met l yX12_giveState wm_X12_giveState ({ frames := 0, cells := 0, slots := 0, locals := 0 }) (va_Pc [.ref o, .int s1] (pB D sz (mW o a t i q c d) (mT t))) (va_Qv (fun (u : MS) => True ∧ mInv u.1 u.2.2.1 ∧ (∀ k, k ∉ ([] : List Nat) → u.1 k = i k) ∧ (∀ k, k ∉ ([23, 24, 25, 26] : List Nat) → u.2.2.1 k = c k)) (oC D (va_A (mW o a t i q c d) sz) (fun u : MS => mW o a t u.1 u.2.1 u.2.2.1 u.2.2.2) (fun _ => [])) (va_A (mW o a t i q c d) sz)) 0 0 (va_A (mW o a t i q c d) sz) := by
  refine Met.ofW (cc := cX12_giveState) (maxL := 3) (ret := none) (by decide) rfl ?_
  intro p e s m args below meth cd s₁ B hml hv
  obtain ⟨rfl, hsz, hP, hK, hD0⟩ := hv
  have hx := B.exec
  have hb := B.bytes
  have hr := B.returns
  have hts := atoms_spec (ws := wm_X12_giveState) B.pre
  have hown : s.vm.findClass RX12 = some m.cls := findClass_of_methodNamed B.named
  have hlocks := B.notSynchronized
  subst hsz
  have hD := hD0.self (sz := s.heap.size)
  generalize hAe : va_A (mW o a t i q c d) s.heap.size = A at hD ⊢
  have hA : ∀ q : Nat, s.heap.size ≤ q → A q := fun q h => by rw [← hAe]; exact Or.inr h
  have hS : va_S A s.heap s.heap [] := va_S.rf
  have hfi : ∀ k, k ∉ ([] : List Nat) → i k = i k := fun _ _ => rfl
  have hfc : ∀ k, k ∉ ([23, 24, 25, 26] : List Nat) → c k = c k := fun _ _ => rfl
  have hl := lv_entry ([.ref o, .int s1]) (n := 3) (Nat.le_of_ble_eq_true rfl)
  rw [lg_entry_eq]
  generalize (lg_sl ([.ref o, .int s1]) ++ List.replicate (3 - (lg_sl ([.ref o, .int s1])).length) Slot.unset).toArray = ls at hl ⊢
  have hl : lv_has ls 3 [(0, .ref o), (1, .int s1)] := hl
  refine lv_iconst (v := 0) hx hb dX12_giveState_0 (by decide) ?_
  refine lv_istore_n (lv' := [(2, .int 0), (0, .ref o), (1, .int s1)]) hx hb dX12_giveState_1 rfl hl (by decide) rfl (fun ls hl => ?_)
  have lp1 : ∀ (fu : Nat) (i1 : Nat → Int32) (q1 : Int64) (c1 : Nat → Nat → Int32) (d1 : Nat → Nat → Int64) (y1_2 : Int32), mInv i1 c1 → (∀ k, k ∉ ([] : List Nat) → i1 k = i k) → (∀ k, k ∉ ([23, 24, 25, 26] : List Nat) → c1 k = c k) → (0 ≤ y1_2.toInt ∧ y1_2.toInt ≤ 30) → (30 - y1_2.toInt).toNat < fu → ∀ (H : Heap) (locs : List Loc) (ls : Array Slot), va_P D vwCl (mW o a t i1 q1 c1 d1) H → va_D A (mW o a t i1 q1 c1 d1) → va_S A s.heap H locs → lv_has ls 3 [(2, .int y1_2), (0, .ref o), (1, .int s1)] → W p l e (headSpec wm_X12_giveState ({ frames := 0, cells := 0, slots := 0, locals := 0 })).room s m ([.ref o, .int s1] : List Value).toArray below meth cd H locs 0 0 (MQ below (va_Qv (fun (u : MS) => True ∧ mInv u.1 u.2.2.1 ∧ (∀ k, k ∉ ([] : List Nat) → u.1 k = i k) ∧ (∀ k, k ∉ ([23, 24, 25, 26] : List Nat) → u.2.2.1 k = c k)) (oC D A (fun u : MS => mW o a t u.1 u.2.1 u.2.2.1 u.2.2.2) (fun _ => [])) A) ([.ref o, .int s1] : List Value).toArray s 0 0 A) (F0 m 2 ls []) := by
    intro fu
    induction fu with
    | zero => intro i1 q1 c1 d1 y1_2 hI hfi hfc hy1_2 hm; exact absurd hm (Nat.not_lt_zero _)
    | succ fu ih =>
      intro i1 q1 c1 d1 y1_2 hI hfi hfc hy1_2 hm H locs ls hP hD hS hl
      refine lv_iload_n hx hb dX12_giveState_2 rfl (lv_at hl 0 rfl) ?_
      refine lv_aload_n hx hb dX12_giveState_3 rfl (lv_at hl 1 rfl) ?_
      refine va_get (D := D) (ci := 12) (v := .int (i1 5)) (C := RX12) (T := TX12) (N := 69) hx hb hts (fun _ h => List.mem_cons_of_mem _ (List.mem_append_right _ h)) hown hK hP 0 rfl rfl 5 (by decide) (hts (.fieldLink RX12 177 "TalePlayModel" "objects" "I") (by decide +kernel)) (fun _ h9 => h9) rfl dX12_giveState_4 ?_
      have rb5_i1 : 0 ≤ (i1 5).toInt ∧ (i1 5).toInt ≤ 30 := hI.1 5
      refine lv_icmp_ge (tgt := 106) hx hb dX12_giveState_7 (by decide) (fun c2 => ?_) (fun c2 => ?_)
      · have f2 := (ti_le (a := (i1 5).toInt) (b := y1_2.toInt) rfl rfl).mp c2
        exact rw_vret (i1, q1, c1, d1) hx hb hr hlocks hS (hK.sub (tys' := []) [] rfl) hP hD dX12_giveState_106 ⟨trivial, hI, hfi, hfc⟩
      · have f2 := mt (ti_le (a := (i1 5).toInt) (b := y1_2.toInt) rfl rfl).mpr c2
        refine lv_aload_n hx hb dX12_giveState_10 rfl (lv_at hl 1 rfl) ?_
        refine va_get (D := D) (ci := 12) (v := .ref (a 23)) (C := RX12) (T := TX12) (N := 69) hx hb hts (fun _ h => List.mem_cons_of_mem _ (List.mem_append_right _ h)) hown hK hP 0 rfl rfl 23 (by decide) (hts (.fieldLink RX12 50 "TalePlayModel" "nForm" "[I") (by decide +kernel)) (fun _ h9 => h9) rfl dX12_giveState_11 ?_
        refine lv_iload_n hx hb dX12_giveState_14 rfl (lv_at hl 0 rfl) ?_
        refine lv_aload_n hx hb dX12_giveState_15 rfl (lv_at hl 1 rfl) ?_
        refine va_get (D := D) (ci := 12) (v := .ref (a 51)) (C := RX12) (T := TX12) (N := 69) hx hb hts (fun _ h => List.mem_cons_of_mem _ (List.mem_append_right _ h)) hown hK hP 0 rfl rfl 51 (by decide) (hts (.fieldLink RX12 107 "TalePlayModel" "stateForm" "[B") (by decide +kernel)) (fun _ h9 => h9) rfl dX12_giveState_16 ?_
        refine lv_bipush (v := 30) hx hb dX12_giveState_19 (by decide) ?_
        refine lv_iload_n hx hb dX12_giveState_21 rfl (lv_at hl 2 rfl) ?_
        refine lv_imul hx hb dX12_giveState_22 ?_
        refine lv_topi (fun x3 ex3 => ?_)
        have tx3 := ti_mul (a := 30) (b := s1.toInt) ex3 (by decide) rfl (by omega) (by omega)
        refine lv_iload_n hx hb dX12_giveState_23 rfl (lv_at hl 0 rfl) ?_
        refine lv_iadd hx hb dX12_giveState_24 ?_
        refine lv_topi (fun x4 ex4 => ?_)
        have tx4 := ti_add (a := (30 * s1.toInt)) (b := y1_2.toInt) ex4 tx3 rfl (by omega) (by omega)
        refine va_bald hx hb hK hP 33 32 rfl rfl (vp_in_iff.mpr (by have h9 : x4.toInt = ((30 * s1.toInt) + y1_2.toInt) := tx4; omega)) dX12_giveState_25 ?_
        refine lv_topi (fun x5 ex5 => ?_)
        have rx5 : x5.toInt = -9 ∨ (0 ≤ x5.toInt ∧ x5.toInt ≤ 4) := by rw [ex5]; exact hI.2 51 _
        refine va_iast hx hb hK hP hD hS 14 13 rfl rfl (vp_in_iff.mpr (by have h9 : y1_2.toInt = y1_2.toInt := rfl; omega)) dX12_giveState_26 (fun H locs hP hD hS => ?_)
        have hI := mInv_c hI (k := 23) (j := (y1_2 : Int32).toNatClampNeg) (x := x5) (show (x5 : Int32).toInt = -9 ∨ (0 ≤ (x5 : Int32).toInt ∧ (x5 : Int32).toInt ≤ 4) from by omega)
        have hfc := fr_c hfc (k := 23) (j := (y1_2 : Int32).toNatClampNeg) (x := x5) (by decide)
        have hP : va_P D vwCl (mW o a t i1 q1 (updA c1 23 (y1_2 : Int32).toNatClampNeg x5) d1) H := hP
        have hD : va_D A (mW o a t i1 q1 (updA c1 23 (y1_2 : Int32).toNatClampNeg x5) d1) := hD
        refine lv_aload_n hx hb dX12_giveState_27 rfl (lv_at hl 1 rfl) ?_
        refine va_get (D := D) (ci := 12) (v := .ref (a 24)) (C := RX12) (T := TX12) (N := 69) hx hb hts (fun _ h => List.mem_cons_of_mem _ (List.mem_append_right _ h)) hown hK hP 0 rfl rfl 24 (by decide) (hts (.fieldLink RX12 53 "TalePlayModel" "nAt" "[I") (by decide +kernel)) (fun _ h9 => h9) rfl dX12_giveState_28 ?_
        refine lv_iload_n hx hb dX12_giveState_31 rfl (lv_at hl 0 rfl) ?_
        refine lv_aload_n hx hb dX12_giveState_32 rfl (lv_at hl 1 rfl) ?_
        refine va_get (D := D) (ci := 12) (v := .ref (a 52)) (C := RX12) (T := TX12) (N := 69) hx hb hts (fun _ h => List.mem_cons_of_mem _ (List.mem_append_right _ h)) hown hK hP 0 rfl rfl 52 (by decide) (hts (.fieldLink RX12 111 "TalePlayModel" "stateAt" "[B") (by decide +kernel)) (fun _ h9 => h9) rfl dX12_giveState_33 ?_
        refine lv_bipush (v := 30) hx hb dX12_giveState_36 (by decide) ?_
        refine lv_iload_n hx hb dX12_giveState_38 rfl (lv_at hl 2 rfl) ?_
        refine lv_imul hx hb dX12_giveState_39 ?_
        refine lv_topi (fun x6 ex6 => ?_)
        have tx6 := ti_mul (a := 30) (b := s1.toInt) ex6 (by decide) rfl (by omega) (by omega)
        refine lv_iload_n hx hb dX12_giveState_40 rfl (lv_at hl 0 rfl) ?_
        refine lv_iadd hx hb dX12_giveState_41 ?_
        refine lv_topi (fun x7 ex7 => ?_)
        have tx7 := ti_add (a := (30 * s1.toInt)) (b := y1_2.toInt) ex7 tx6 rfl (by omega) (by omega)
        refine va_bald hx hb hK hP 34 33 rfl rfl (vp_in_iff.mpr (by have h9 : x7.toInt = ((30 * s1.toInt) + y1_2.toInt) := tx7; omega)) dX12_giveState_42 ?_
        refine lv_topi (fun x8 ex8 => ?_)
        have rx8 : x8.toInt = -9 ∨ (0 ≤ x8.toInt ∧ x8.toInt ≤ 29) := by rw [ex8]; exact hI.2 52 _
        refine va_iast hx hb hK hP hD hS 15 14 rfl rfl (vp_in_iff.mpr (by have h9 : y1_2.toInt = y1_2.toInt := rfl; omega)) dX12_giveState_43 (fun H locs hP hD hS => ?_)
        have hI := mInv_c hI (k := 24) (j := (y1_2 : Int32).toNatClampNeg) (x := x8) (show (x8 : Int32).toInt = -9 ∨ (0 ≤ (x8 : Int32).toInt ∧ (x8 : Int32).toInt ≤ 29) from by omega)
        have hfc := fr_c hfc (k := 24) (j := (y1_2 : Int32).toNatClampNeg) (x := x8) (by decide)
        have hP : va_P D vwCl (mW o a t i1 q1 (updA (updA c1 23 (y1_2 : Int32).toNatClampNeg x5) 24 (y1_2 : Int32).toNatClampNeg x8) d1) H := hP
        have hD : va_D A (mW o a t i1 q1 (updA (updA c1 23 (y1_2 : Int32).toNatClampNeg x5) 24 (y1_2 : Int32).toNatClampNeg x8) d1) := hD
        refine lv_aload_n hx hb dX12_giveState_44 rfl (lv_at hl 1 rfl) ?_
        refine va_get (D := D) (ci := 12) (v := .ref (a 25)) (C := RX12) (T := TX12) (N := 69) hx hb hts (fun _ h => List.mem_cons_of_mem _ (List.mem_append_right _ h)) hown hK hP 0 rfl rfl 25 (by decide) (hts (.fieldLink RX12 56 "TalePlayModel" "nOpen" "[Z") (by decide +kernel)) (fun _ h9 => h9) rfl dX12_giveState_45 ?_
        refine lv_iload_n hx hb dX12_giveState_48 rfl (lv_at hl 0 rfl) ?_
        refine lv_aload_n hx hb dX12_giveState_49 rfl (lv_at hl 1 rfl) ?_
        refine va_get (D := D) (ci := 12) (v := .ref (a 53)) (C := RX12) (T := TX12) (N := 69) hx hb hts (fun _ h => List.mem_cons_of_mem _ (List.mem_append_right _ h)) hown hK hP 0 rfl rfl 53 (by decide) (hts (.fieldLink RX12 114 "TalePlayModel" "stateShut" "[B") (by decide +kernel)) (fun _ h9 => h9) rfl dX12_giveState_50 ?_
        refine lv_bipush (v := 30) hx hb dX12_giveState_53 (by decide) ?_
        refine lv_iload_n hx hb dX12_giveState_55 rfl (lv_at hl 2 rfl) ?_
        refine lv_imul hx hb dX12_giveState_56 ?_
        refine lv_topi (fun x9 ex9 => ?_)
        have tx9 := ti_mul (a := 30) (b := s1.toInt) ex9 (by decide) rfl (by omega) (by omega)
        refine lv_iload_n hx hb dX12_giveState_57 rfl (lv_at hl 0 rfl) ?_
        refine lv_iadd hx hb dX12_giveState_58 ?_
        refine lv_topi (fun x10 ex10 => ?_)
        have tx10 := ti_add (a := (30 * s1.toInt)) (b := y1_2.toInt) ex10 tx9 rfl (by omega) (by omega)
        refine va_bald hx hb hK hP 35 34 rfl rfl (vp_in_iff.mpr (by have h9 : x10.toInt = ((30 * s1.toInt) + y1_2.toInt) := tx10; omega)) dX12_giveState_59 ?_
        refine lv_topi (fun x11 ex11 => ?_)
        have rx11 : 0 ≤ x11.toInt ∧ x11.toInt ≤ 3 := by rw [ex11]; exact hI.2 53 _
        refine lv_iconst (v := 1) hx hb dX12_giveState_60 (by decide) ?_
        refine lv_iand hx hb dX12_giveState_61 ?_
        refine lv_topi (fun x12 ex12 => ?_)
        refine lv_iconst (v := 1) hx hb dX12_giveState_62 (by decide) ?_
        refine lv_icmp_ne (tgt := 70) hx hb dX12_giveState_63 (by decide) (fun c13 => ?_) (fun c13 => ?_)
        · have f13 := mt (ti_eq (a := x12.toInt) (b := 1) rfl (by decide)).mpr c13
          refine lv_iconst (v := 0) hx hb dX12_giveState_70 (by decide) ?_
          refine zast2 hx hb hK hP hD hS 16 15 rfl rfl (vp_in_iff.mpr (by have h9 : y1_2.toInt = y1_2.toInt := rfl; omega)) (nb_z (show 0 ≤ (0 : Int32).toInt ∧ (0 : Int32).toInt ≤ 1 from by decide)) dX12_giveState_71 (fun H locs hP hD hS => ?_)
          have hI := mInv_c hI (k := 25) (j := (y1_2 : Int32).toNatClampNeg) (x := 0) (show 0 ≤ (0 : Int32).toInt ∧ (0 : Int32).toInt ≤ 1 from by decide)
          have hfc := fr_c hfc (k := 25) (j := (y1_2 : Int32).toNatClampNeg) (x := 0) (by decide)
          have hP : va_P D vwCl (mW o a t i1 q1 (updA (updA (updA c1 23 (y1_2 : Int32).toNatClampNeg x5) 24 (y1_2 : Int32).toNatClampNeg x8) 25 (y1_2 : Int32).toNatClampNeg 0) d1) H := hP
          have hD : va_D A (mW o a t i1 q1 (updA (updA (updA c1 23 (y1_2 : Int32).toNatClampNeg x5) 24 (y1_2 : Int32).toNatClampNeg x8) 25 (y1_2 : Int32).toNatClampNeg 0) d1) := hD
          refine lv_aload_n hx hb dX12_giveState_72 rfl (lv_at hl 1 rfl) ?_
          refine va_get (D := D) (ci := 12) (v := .ref (a 26)) (C := RX12) (T := TX12) (N := 69) hx hb hts (fun _ h => List.mem_cons_of_mem _ (List.mem_append_right _ h)) hown hK hP 0 rfl rfl 26 (by decide) (hts (.fieldLink RX12 59 "TalePlayModel" "nLocked" "[Z") (by decide +kernel)) (fun _ h9 => h9) rfl dX12_giveState_73 ?_
          refine lv_iload_n hx hb dX12_giveState_76 rfl (lv_at hl 0 rfl) ?_
          refine lv_aload_n hx hb dX12_giveState_77 rfl (lv_at hl 1 rfl) ?_
          refine va_get (D := D) (ci := 12) (v := .ref (a 53)) (C := RX12) (T := TX12) (N := 69) hx hb hts (fun _ h => List.mem_cons_of_mem _ (List.mem_append_right _ h)) hown hK hP 0 rfl rfl 53 (by decide) (hts (.fieldLink RX12 114 "TalePlayModel" "stateShut" "[B") (by decide +kernel)) (fun _ h9 => h9) rfl dX12_giveState_78 ?_
          refine lv_bipush (v := 30) hx hb dX12_giveState_81 (by decide) ?_
          refine lv_iload_n hx hb dX12_giveState_83 rfl (lv_at hl 2 rfl) ?_
          refine lv_imul hx hb dX12_giveState_84 ?_
          refine lv_topi (fun x14 ex14 => ?_)
          have tx14 := ti_mul (a := 30) (b := s1.toInt) ex14 (by decide) rfl (by omega) (by omega)
          refine lv_iload_n hx hb dX12_giveState_85 rfl (lv_at hl 0 rfl) ?_
          refine lv_iadd hx hb dX12_giveState_86 ?_
          refine lv_topi (fun x15 ex15 => ?_)
          have tx15 := ti_add (a := (30 * s1.toInt)) (b := y1_2.toInt) ex15 tx14 rfl (by omega) (by omega)
          refine va_bald hx hb hK hP 35 34 rfl rfl (vp_in_iff.mpr (by have h9 : x15.toInt = ((30 * s1.toInt) + y1_2.toInt) := tx15; omega)) dX12_giveState_87 ?_
          refine lv_topi (fun x16 ex16 => ?_)
          have rx16 : 0 ≤ x16.toInt ∧ x16.toInt ≤ 3 := by rw [ex16]; exact hI.2 53 _
          refine lv_iconst (v := 2) hx hb dX12_giveState_88 (by decide) ?_
          refine lv_iand hx hb dX12_giveState_89 ?_
          refine lv_topi (fun x17 ex17 => ?_)
          refine lv_iconst (v := 2) hx hb dX12_giveState_90 (by decide) ?_
          refine lv_icmp_ne (tgt := 98) hx hb dX12_giveState_91 (by decide) (fun c18 => ?_) (fun c18 => ?_)
          · have f18 := mt (ti_eq (a := x17.toInt) (b := 2) rfl (by decide)).mpr c18
            refine lv_iconst (v := 0) hx hb dX12_giveState_98 (by decide) ?_
            refine zast2 hx hb hK hP hD hS 17 16 rfl rfl (vp_in_iff.mpr (by have h9 : y1_2.toInt = y1_2.toInt := rfl; omega)) (nb_z (show 0 ≤ (0 : Int32).toInt ∧ (0 : Int32).toInt ≤ 1 from by decide)) dX12_giveState_99 (fun H locs hP hD hS => ?_)
            have hI := mInv_c hI (k := 26) (j := (y1_2 : Int32).toNatClampNeg) (x := 0) (show 0 ≤ (0 : Int32).toInt ∧ (0 : Int32).toInt ≤ 1 from by decide)
            have hfc := fr_c hfc (k := 26) (j := (y1_2 : Int32).toNatClampNeg) (x := 0) (by decide)
            have hP : va_P D vwCl (mW o a t i1 q1 (updA (updA (updA (updA c1 23 (y1_2 : Int32).toNatClampNeg x5) 24 (y1_2 : Int32).toNatClampNeg x8) 25 (y1_2 : Int32).toNatClampNeg 0) 26 (y1_2 : Int32).toNatClampNeg 0) d1) H := hP
            have hD : va_D A (mW o a t i1 q1 (updA (updA (updA (updA c1 23 (y1_2 : Int32).toNatClampNeg x5) 24 (y1_2 : Int32).toNatClampNeg x8) 25 (y1_2 : Int32).toNatClampNeg 0) 26 (y1_2 : Int32).toNatClampNeg 0) d1) := hD
            obtain ⟨x19, ex19⟩ : ∃ y : Int32, y = y1_2 + 1 := ⟨_, rfl⟩
            have tx19 := ti_add (a := y1_2.toInt) (b := 1) ex19 rfl (by decide) (by omega) (by omega)
            refine lv_iinc (v := x19) (lv' := [(2, .int x19), (0, .ref o), (1, .int s1)]) hx hb dX12_giveState_100 hl (k := 0) rfl (by rw [ex19]; rfl) (by decide) rfl (fun ls hl => ?_)
            refine lv_goto (tgt := 2) hx hb dX12_giveState_103 (by decide) ?_
            exact ih i1 q1 (updA (updA (updA (updA c1 23 (y1_2 : Int32).toNatClampNeg x5) 24 (y1_2 : Int32).toNatClampNeg x8) 25 (y1_2 : Int32).toNatClampNeg 0) 26 (y1_2 : Int32).toNatClampNeg 0) d1 x19 hI hfi hfc (by have h82 : x19.toInt = (y1_2.toInt + 1) := tx19; omega) (by have h82 : x19.toInt = (y1_2.toInt + 1) := tx19; omega) _ _ _ hP hD hS (lv_sub hl [0, 1, 2] rfl)
          · have f18 := (ti_eq (a := x17.toInt) (b := 2) rfl (by decide)).mp c18
            refine lv_iconst (v := 1) hx hb dX12_giveState_94 (by decide) ?_
            refine lv_goto (tgt := 99) hx hb dX12_giveState_95 (by decide) ?_
            refine zast2 hx hb hK hP hD hS 17 16 rfl rfl (vp_in_iff.mpr (by have h9 : y1_2.toInt = y1_2.toInt := rfl; omega)) (nb_z (show 0 ≤ (1 : Int32).toInt ∧ (1 : Int32).toInt ≤ 1 from by decide)) dX12_giveState_99 (fun H locs hP hD hS => ?_)
            have hI := mInv_c hI (k := 26) (j := (y1_2 : Int32).toNatClampNeg) (x := 1) (show 0 ≤ (1 : Int32).toInt ∧ (1 : Int32).toInt ≤ 1 from by decide)
            have hfc := fr_c hfc (k := 26) (j := (y1_2 : Int32).toNatClampNeg) (x := 1) (by decide)
            have hP : va_P D vwCl (mW o a t i1 q1 (updA (updA (updA (updA c1 23 (y1_2 : Int32).toNatClampNeg x5) 24 (y1_2 : Int32).toNatClampNeg x8) 25 (y1_2 : Int32).toNatClampNeg 0) 26 (y1_2 : Int32).toNatClampNeg 1) d1) H := hP
            have hD : va_D A (mW o a t i1 q1 (updA (updA (updA (updA c1 23 (y1_2 : Int32).toNatClampNeg x5) 24 (y1_2 : Int32).toNatClampNeg x8) 25 (y1_2 : Int32).toNatClampNeg 0) 26 (y1_2 : Int32).toNatClampNeg 1) d1) := hD
            obtain ⟨x20, ex20⟩ : ∃ y : Int32, y = y1_2 + 1 := ⟨_, rfl⟩
            have tx20 := ti_add (a := y1_2.toInt) (b := 1) ex20 rfl (by decide) (by omega) (by omega)
            refine lv_iinc (v := x20) (lv' := [(2, .int x20), (0, .ref o), (1, .int s1)]) hx hb dX12_giveState_100 hl (k := 0) rfl (by rw [ex20]; rfl) (by decide) rfl (fun ls hl => ?_)
            refine lv_goto (tgt := 2) hx hb dX12_giveState_103 (by decide) ?_
            exact ih i1 q1 (updA (updA (updA (updA c1 23 (y1_2 : Int32).toNatClampNeg x5) 24 (y1_2 : Int32).toNatClampNeg x8) 25 (y1_2 : Int32).toNatClampNeg 0) 26 (y1_2 : Int32).toNatClampNeg 1) d1 x20 hI hfi hfc (by have h82 : x20.toInt = (y1_2.toInt + 1) := tx20; omega) (by have h82 : x20.toInt = (y1_2.toInt + 1) := tx20; omega) _ _ _ hP hD hS (lv_sub hl [0, 1, 2] rfl)
        · have f13 := (ti_eq (a := x12.toInt) (b := 1) rfl (by decide)).mp c13
          refine lv_iconst (v := 1) hx hb dX12_giveState_66 (by decide) ?_
          refine lv_goto (tgt := 71) hx hb dX12_giveState_67 (by decide) ?_
          refine zast2 hx hb hK hP hD hS 16 15 rfl rfl (vp_in_iff.mpr (by have h9 : y1_2.toInt = y1_2.toInt := rfl; omega)) (nb_z (show 0 ≤ (1 : Int32).toInt ∧ (1 : Int32).toInt ≤ 1 from by decide)) dX12_giveState_71 (fun H locs hP hD hS => ?_)
          have hI := mInv_c hI (k := 25) (j := (y1_2 : Int32).toNatClampNeg) (x := 1) (show 0 ≤ (1 : Int32).toInt ∧ (1 : Int32).toInt ≤ 1 from by decide)
          have hfc := fr_c hfc (k := 25) (j := (y1_2 : Int32).toNatClampNeg) (x := 1) (by decide)
          have hP : va_P D vwCl (mW o a t i1 q1 (updA (updA (updA c1 23 (y1_2 : Int32).toNatClampNeg x5) 24 (y1_2 : Int32).toNatClampNeg x8) 25 (y1_2 : Int32).toNatClampNeg 1) d1) H := hP
          have hD : va_D A (mW o a t i1 q1 (updA (updA (updA c1 23 (y1_2 : Int32).toNatClampNeg x5) 24 (y1_2 : Int32).toNatClampNeg x8) 25 (y1_2 : Int32).toNatClampNeg 1) d1) := hD
          refine lv_aload_n hx hb dX12_giveState_72 rfl (lv_at hl 1 rfl) ?_
          refine va_get (D := D) (ci := 12) (v := .ref (a 26)) (C := RX12) (T := TX12) (N := 69) hx hb hts (fun _ h => List.mem_cons_of_mem _ (List.mem_append_right _ h)) hown hK hP 0 rfl rfl 26 (by decide) (hts (.fieldLink RX12 59 "TalePlayModel" "nLocked" "[Z") (by decide +kernel)) (fun _ h9 => h9) rfl dX12_giveState_73 ?_
          refine lv_iload_n hx hb dX12_giveState_76 rfl (lv_at hl 0 rfl) ?_
          refine lv_aload_n hx hb dX12_giveState_77 rfl (lv_at hl 1 rfl) ?_
          refine va_get (D := D) (ci := 12) (v := .ref (a 53)) (C := RX12) (T := TX12) (N := 69) hx hb hts (fun _ h => List.mem_cons_of_mem _ (List.mem_append_right _ h)) hown hK hP 0 rfl rfl 53 (by decide) (hts (.fieldLink RX12 114 "TalePlayModel" "stateShut" "[B") (by decide +kernel)) (fun _ h9 => h9) rfl dX12_giveState_78 ?_
          refine lv_bipush (v := 30) hx hb dX12_giveState_81 (by decide) ?_
          refine lv_iload_n hx hb dX12_giveState_83 rfl (lv_at hl 2 rfl) ?_
          refine lv_imul hx hb dX12_giveState_84 ?_
          refine lv_topi (fun x21 ex21 => ?_)
          have tx21 := ti_mul (a := 30) (b := s1.toInt) ex21 (by decide) rfl (by omega) (by omega)
          refine lv_iload_n hx hb dX12_giveState_85 rfl (lv_at hl 0 rfl) ?_
          refine lv_iadd hx hb dX12_giveState_86 ?_
          refine lv_topi (fun x22 ex22 => ?_)
          have tx22 := ti_add (a := (30 * s1.toInt)) (b := y1_2.toInt) ex22 tx21 rfl (by omega) (by omega)
          refine va_bald hx hb hK hP 35 34 rfl rfl (vp_in_iff.mpr (by have h9 : x22.toInt = ((30 * s1.toInt) + y1_2.toInt) := tx22; omega)) dX12_giveState_87 ?_
          refine lv_topi (fun x23 ex23 => ?_)
          have rx23 : 0 ≤ x23.toInt ∧ x23.toInt ≤ 3 := by rw [ex23]; exact hI.2 53 _
          refine lv_iconst (v := 2) hx hb dX12_giveState_88 (by decide) ?_
          refine lv_iand hx hb dX12_giveState_89 ?_
          refine lv_topi (fun x24 ex24 => ?_)
          refine lv_iconst (v := 2) hx hb dX12_giveState_90 (by decide) ?_
          refine lv_icmp_ne (tgt := 98) hx hb dX12_giveState_91 (by decide) (fun c25 => ?_) (fun c25 => ?_)
          · have f25 := mt (ti_eq (a := x24.toInt) (b := 2) rfl (by decide)).mpr c25
            refine lv_iconst (v := 0) hx hb dX12_giveState_98 (by decide) ?_
            refine zast2 hx hb hK hP hD hS 17 16 rfl rfl (vp_in_iff.mpr (by have h9 : y1_2.toInt = y1_2.toInt := rfl; omega)) (nb_z (show 0 ≤ (0 : Int32).toInt ∧ (0 : Int32).toInt ≤ 1 from by decide)) dX12_giveState_99 (fun H locs hP hD hS => ?_)
            have hI := mInv_c hI (k := 26) (j := (y1_2 : Int32).toNatClampNeg) (x := 0) (show 0 ≤ (0 : Int32).toInt ∧ (0 : Int32).toInt ≤ 1 from by decide)
            have hfc := fr_c hfc (k := 26) (j := (y1_2 : Int32).toNatClampNeg) (x := 0) (by decide)
            have hP : va_P D vwCl (mW o a t i1 q1 (updA (updA (updA (updA c1 23 (y1_2 : Int32).toNatClampNeg x5) 24 (y1_2 : Int32).toNatClampNeg x8) 25 (y1_2 : Int32).toNatClampNeg 1) 26 (y1_2 : Int32).toNatClampNeg 0) d1) H := hP
            have hD : va_D A (mW o a t i1 q1 (updA (updA (updA (updA c1 23 (y1_2 : Int32).toNatClampNeg x5) 24 (y1_2 : Int32).toNatClampNeg x8) 25 (y1_2 : Int32).toNatClampNeg 1) 26 (y1_2 : Int32).toNatClampNeg 0) d1) := hD
            obtain ⟨x26, ex26⟩ : ∃ y : Int32, y = y1_2 + 1 := ⟨_, rfl⟩
            have tx26 := ti_add (a := y1_2.toInt) (b := 1) ex26 rfl (by decide) (by omega) (by omega)
            refine lv_iinc (v := x26) (lv' := [(2, .int x26), (0, .ref o), (1, .int s1)]) hx hb dX12_giveState_100 hl (k := 0) rfl (by rw [ex26]; rfl) (by decide) rfl (fun ls hl => ?_)
            refine lv_goto (tgt := 2) hx hb dX12_giveState_103 (by decide) ?_
            exact ih i1 q1 (updA (updA (updA (updA c1 23 (y1_2 : Int32).toNatClampNeg x5) 24 (y1_2 : Int32).toNatClampNeg x8) 25 (y1_2 : Int32).toNatClampNeg 1) 26 (y1_2 : Int32).toNatClampNeg 0) d1 x26 hI hfi hfc (by have h82 : x26.toInt = (y1_2.toInt + 1) := tx26; omega) (by have h82 : x26.toInt = (y1_2.toInt + 1) := tx26; omega) _ _ _ hP hD hS (lv_sub hl [0, 1, 2] rfl)
          · have f25 := (ti_eq (a := x24.toInt) (b := 2) rfl (by decide)).mp c25
            refine lv_iconst (v := 1) hx hb dX12_giveState_94 (by decide) ?_
            refine lv_goto (tgt := 99) hx hb dX12_giveState_95 (by decide) ?_
            refine zast2 hx hb hK hP hD hS 17 16 rfl rfl (vp_in_iff.mpr (by have h9 : y1_2.toInt = y1_2.toInt := rfl; omega)) (nb_z (show 0 ≤ (1 : Int32).toInt ∧ (1 : Int32).toInt ≤ 1 from by decide)) dX12_giveState_99 (fun H locs hP hD hS => ?_)
            have hI := mInv_c hI (k := 26) (j := (y1_2 : Int32).toNatClampNeg) (x := 1) (show 0 ≤ (1 : Int32).toInt ∧ (1 : Int32).toInt ≤ 1 from by decide)
            have hfc := fr_c hfc (k := 26) (j := (y1_2 : Int32).toNatClampNeg) (x := 1) (by decide)
            have hP : va_P D vwCl (mW o a t i1 q1 (updA (updA (updA (updA c1 23 (y1_2 : Int32).toNatClampNeg x5) 24 (y1_2 : Int32).toNatClampNeg x8) 25 (y1_2 : Int32).toNatClampNeg 1) 26 (y1_2 : Int32).toNatClampNeg 1) d1) H := hP
            have hD : va_D A (mW o a t i1 q1 (updA (updA (updA (updA c1 23 (y1_2 : Int32).toNatClampNeg x5) 24 (y1_2 : Int32).toNatClampNeg x8) 25 (y1_2 : Int32).toNatClampNeg 1) 26 (y1_2 : Int32).toNatClampNeg 1) d1) := hD
            obtain ⟨x27, ex27⟩ : ∃ y : Int32, y = y1_2 + 1 := ⟨_, rfl⟩
            have tx27 := ti_add (a := y1_2.toInt) (b := 1) ex27 rfl (by decide) (by omega) (by omega)
            refine lv_iinc (v := x27) (lv' := [(2, .int x27), (0, .ref o), (1, .int s1)]) hx hb dX12_giveState_100 hl (k := 0) rfl (by rw [ex27]; rfl) (by decide) rfl (fun ls hl => ?_)
            refine lv_goto (tgt := 2) hx hb dX12_giveState_103 (by decide) ?_
            exact ih i1 q1 (updA (updA (updA (updA c1 23 (y1_2 : Int32).toNatClampNeg x5) 24 (y1_2 : Int32).toNatClampNeg x8) 25 (y1_2 : Int32).toNatClampNeg 1) 26 (y1_2 : Int32).toNatClampNeg 1) d1 x27 hI hfi hfc (by have h82 : x27.toInt = (y1_2.toInt + 1) := tx27; omega) (by have h82 : x27.toInt = (y1_2.toInt + 1) := tx27; omega) _ _ _ hP hD hS (lv_sub hl [0, 1, 2] rfl)
  exact lp1 _ i q c d (0 : Int32) hI hfi hfc (by have h82 : (0 : Int32).toInt = 0 := (by decide); omega) (Nat.lt_succ_self _) _ _ _ hP hD hS (lv_sub hl [0, 1, 2] rfl)

def wm_X12_isState : List Cond := .code yX12_isState cX12_isState 3 (some .boolean) :: (([.fieldLink RX12 177 "TalePlayModel" "objects" "I", .fieldLink RX12 107 "TalePlayModel" "stateForm" "[B", .fieldLink RX12 50 "TalePlayModel" "nForm" "[I", .fieldLink RX12 111 "TalePlayModel" "stateAt" "[B", .fieldLink RX12 53 "TalePlayModel" "nAt" "[I", .fieldLink RX12 114 "TalePlayModel" "stateShut" "[B", .fieldLink RX12 56 "TalePlayModel" "nOpen" "[Z", .fieldLink RX12 59 "TalePlayModel" "nLocked" "[Z"] : List Cond) ++ wsX120)
set_option maxHeartbeats 4000000 in
set_option maxRecDepth 100000 in
theorem s_X12_isState (l : Launch) (D : va_G) (sz : Nat) (o : Nat) (a : Nat → Nat) (t : Nat → ClassId) (i : Nat → Int32) (q : Int64) (c : Nat → Nat → Int32) (d : Nat → Nat → Int64) (s1 : Int32) (hI : mInv i c) (hs1 : 0 ≤ s1.toInt ∧ s1.toInt ≤ 300) : Met l yX12_isState wm_X12_isState ({ frames := 0, cells := 0, slots := 0, locals := 0 }) (va_Pc [.ref o, .int s1] (pA D sz (mW o a t i q c d) (mT t))) (va_Qi (fun (r : Int32) (_ : Unit) => (0 ≤ r.toInt ∧ r.toInt ≤ 1)) oA (ro sz)) 0 0 (ro sz) := by
  refine Met.ofW (cc := cX12_isState) (maxL := 3) (ret := (some .boolean)) (by decide) rfl ?_
  intro p e s m args below meth cd s₁ B hml hv
  obtain ⟨rfl, hsz, hP, hK⟩ := hv
  have hx := B.exec
  have hb := B.bytes
  have hr := B.returns
  have hts := atoms_spec (ws := wm_X12_isState) B.pre
  have hown : s.vm.findClass RX12 = some m.cls := findClass_of_methodNamed B.named
  have hlocks := B.notSynchronized
  subst hsz
  have hA : ∀ q : Nat, s.heap.size ≤ q → ro s.heap.size q := fun _ h => h
  have hS : va_S (ro s.heap.size) s.heap s.heap [] := va_S.rf
  have hl := lv_entry ([.ref o, .int s1]) (n := 3) (Nat.le_of_ble_eq_true rfl)
  rw [lg_entry_eq]
  generalize (lg_sl ([.ref o, .int s1]) ++ List.replicate (3 - (lg_sl ([.ref o, .int s1])).length) Slot.unset).toArray = ls at hl ⊢
  have hl : lv_has ls 3 [(0, .ref o), (1, .int s1)] := hl
  refine lv_iconst (v := 0) hx hb dX12_isState_0 (by decide) ?_
  refine lv_istore_n (lv' := [(2, .int 0), (0, .ref o), (1, .int s1)]) hx hb dX12_isState_1 rfl hl (by decide) rfl (fun ls hl => ?_)
  have lp1 : ∀ (fu : Nat) (y1_2 : Int32), (0 ≤ y1_2.toInt ∧ y1_2.toInt ≤ 30) → (30 - y1_2.toInt).toNat < fu → ∀ (H : Heap) (locs : List Loc) (ls : Array Slot), va_P D vwCl (mW o a t i q c d) H → va_S (ro s.heap.size) s.heap H locs → lv_has ls 3 [(2, .int y1_2), (0, .ref o), (1, .int s1)] → W p l e (headSpec wm_X12_isState ({ frames := 0, cells := 0, slots := 0, locals := 0 })).room s m ([.ref o, .int s1] : List Value).toArray below meth cd H locs 0 0 (MQ below (va_Qi (fun (r : Int32) (_ : Unit) => (0 ≤ r.toInt ∧ r.toInt ≤ 1)) oA (ro s.heap.size)) ([.ref o, .int s1] : List Value).toArray s 0 0 (ro s.heap.size)) (F0 m 2 ls []) := by
    intro fu
    induction fu with
    | zero => intro y1_2 hy1_2 hm; exact absurd hm (Nat.not_lt_zero _)
    | succ fu ih =>
      intro y1_2 hy1_2 hm H locs ls hP hS hl
      refine lv_iload_n hx hb dX12_isState_2 rfl (lv_at hl 0 rfl) ?_
      refine lv_aload_n hx hb dX12_isState_3 rfl (lv_at hl 1 rfl) ?_
      refine va_get (D := D) (ci := 12) (v := .int (i 5)) (C := RX12) (T := TX12) (N := 69) hx hb hts (fun _ h => List.mem_cons_of_mem _ (List.mem_append_right _ h)) hown hK hP 0 rfl rfl 5 (by decide) (hts (.fieldLink RX12 177 "TalePlayModel" "objects" "I") (by decide +kernel)) (fun _ h9 => h9) rfl dX12_isState_4 ?_
      have rb5_i : 0 ≤ (i 5).toInt ∧ (i 5).toInt ≤ 30 := hI.1 5
      refine lv_icmp_ge (tgt := 101) hx hb dX12_isState_7 (by decide) (fun c2 => ?_) (fun c2 => ?_)
      · have f2 := (ti_le (a := (i 5).toInt) (b := y1_2.toInt) rfl rfl).mp c2
        refine lv_iconst (v := 1) hx hb dX12_isState_101 (by decide) ?_
        exact ro_zret hx hb hr hlocks hS rfl dX12_isState_102 (show 0 ≤ (1 : Int32).toInt ∧ (1 : Int32).toInt ≤ 1 from by decide)
      · have f2 := mt (ti_le (a := (i 5).toInt) (b := y1_2.toInt) rfl rfl).mpr c2
        refine lv_aload_n hx hb dX12_isState_10 rfl (lv_at hl 1 rfl) ?_
        refine va_get (D := D) (ci := 12) (v := .ref (a 51)) (C := RX12) (T := TX12) (N := 69) hx hb hts (fun _ h => List.mem_cons_of_mem _ (List.mem_append_right _ h)) hown hK hP 0 rfl rfl 51 (by decide) (hts (.fieldLink RX12 107 "TalePlayModel" "stateForm" "[B") (by decide +kernel)) (fun _ h9 => h9) rfl dX12_isState_11 ?_
        refine lv_bipush (v := 30) hx hb dX12_isState_14 (by decide) ?_
        refine lv_iload_n hx hb dX12_isState_16 rfl (lv_at hl 2 rfl) ?_
        refine lv_imul hx hb dX12_isState_17 ?_
        refine lv_topi (fun x3 ex3 => ?_)
        have tx3 := ti_mul (a := 30) (b := s1.toInt) ex3 (by decide) rfl (by omega) (by omega)
        refine lv_iload_n hx hb dX12_isState_18 rfl (lv_at hl 0 rfl) ?_
        refine lv_iadd hx hb dX12_isState_19 ?_
        refine lv_topi (fun x4 ex4 => ?_)
        have tx4 := ti_add (a := (30 * s1.toInt)) (b := y1_2.toInt) ex4 tx3 rfl (by omega) (by omega)
        refine va_bald hx hb hK hP 33 32 rfl rfl (vp_in_iff.mpr (by have h9 : x4.toInt = ((30 * s1.toInt) + y1_2.toInt) := tx4; omega)) dX12_isState_20 ?_
        refine lv_topi (fun x5 ex5 => ?_)
        have rx5 : x5.toInt = -9 ∨ (0 ≤ x5.toInt ∧ x5.toInt ≤ 4) := by rw [ex5]; exact hI.2 51 _
        refine lv_aload_n hx hb dX12_isState_21 rfl (lv_at hl 1 rfl) ?_
        refine va_get (D := D) (ci := 12) (v := .ref (a 23)) (C := RX12) (T := TX12) (N := 69) hx hb hts (fun _ h => List.mem_cons_of_mem _ (List.mem_append_right _ h)) hown hK hP 0 rfl rfl 23 (by decide) (hts (.fieldLink RX12 50 "TalePlayModel" "nForm" "[I") (by decide +kernel)) (fun _ h9 => h9) rfl dX12_isState_22 ?_
        refine lv_iload_n hx hb dX12_isState_25 rfl (lv_at hl 0 rfl) ?_
        refine va_iald hx hb hK hP 14 13 rfl rfl (vp_in_iff.mpr (by have h9 : y1_2.toInt = y1_2.toInt := rfl; omega)) dX12_isState_26 ?_
        refine lv_topi (fun x6 ex6 => ?_)
        have rx6 : x6.toInt = -9 ∨ (0 ≤ x6.toInt ∧ x6.toInt ≤ 4) := by rw [ex6]; exact hI.2 23 _
        refine lv_icmp_ne (tgt := 93) hx hb dX12_isState_27 (by decide) (fun c7 => ?_) (fun c7 => ?_)
        · have f7 := mt (ti_eq (a := x5.toInt) (b := x6.toInt) rfl rfl).mpr c7
          refine lv_iconst (v := 0) hx hb dX12_isState_93 (by decide) ?_
          exact ro_zret hx hb hr hlocks hS rfl dX12_isState_94 (show 0 ≤ (0 : Int32).toInt ∧ (0 : Int32).toInt ≤ 1 from by decide)
        · have f7 := (ti_eq (a := x5.toInt) (b := x6.toInt) rfl rfl).mp c7
          refine lv_aload_n hx hb dX12_isState_30 rfl (lv_at hl 1 rfl) ?_
          refine va_get (D := D) (ci := 12) (v := .ref (a 52)) (C := RX12) (T := TX12) (N := 69) hx hb hts (fun _ h => List.mem_cons_of_mem _ (List.mem_append_right _ h)) hown hK hP 0 rfl rfl 52 (by decide) (hts (.fieldLink RX12 111 "TalePlayModel" "stateAt" "[B") (by decide +kernel)) (fun _ h9 => h9) rfl dX12_isState_31 ?_
          refine lv_bipush (v := 30) hx hb dX12_isState_34 (by decide) ?_
          refine lv_iload_n hx hb dX12_isState_36 rfl (lv_at hl 2 rfl) ?_
          refine lv_imul hx hb dX12_isState_37 ?_
          refine lv_topi (fun x8 ex8 => ?_)
          have tx8 := ti_mul (a := 30) (b := s1.toInt) ex8 (by decide) rfl (by omega) (by omega)
          refine lv_iload_n hx hb dX12_isState_38 rfl (lv_at hl 0 rfl) ?_
          refine lv_iadd hx hb dX12_isState_39 ?_
          refine lv_topi (fun x9 ex9 => ?_)
          have tx9 := ti_add (a := (30 * s1.toInt)) (b := y1_2.toInt) ex9 tx8 rfl (by omega) (by omega)
          refine va_bald hx hb hK hP 34 33 rfl rfl (vp_in_iff.mpr (by have h9 : x9.toInt = ((30 * s1.toInt) + y1_2.toInt) := tx9; omega)) dX12_isState_40 ?_
          refine lv_topi (fun x10 ex10 => ?_)
          have rx10 : x10.toInt = -9 ∨ (0 ≤ x10.toInt ∧ x10.toInt ≤ 29) := by rw [ex10]; exact hI.2 52 _
          refine lv_aload_n hx hb dX12_isState_41 rfl (lv_at hl 1 rfl) ?_
          refine va_get (D := D) (ci := 12) (v := .ref (a 24)) (C := RX12) (T := TX12) (N := 69) hx hb hts (fun _ h => List.mem_cons_of_mem _ (List.mem_append_right _ h)) hown hK hP 0 rfl rfl 24 (by decide) (hts (.fieldLink RX12 53 "TalePlayModel" "nAt" "[I") (by decide +kernel)) (fun _ h9 => h9) rfl dX12_isState_42 ?_
          refine lv_iload_n hx hb dX12_isState_45 rfl (lv_at hl 0 rfl) ?_
          refine va_iald hx hb hK hP 15 14 rfl rfl (vp_in_iff.mpr (by have h9 : y1_2.toInt = y1_2.toInt := rfl; omega)) dX12_isState_46 ?_
          refine lv_topi (fun x11 ex11 => ?_)
          have rx11 : x11.toInt = -9 ∨ (0 ≤ x11.toInt ∧ x11.toInt ≤ 29) := by rw [ex11]; exact hI.2 24 _
          refine lv_icmp_ne (tgt := 93) hx hb dX12_isState_47 (by decide) (fun c12 => ?_) (fun c12 => ?_)
          · have f12 := mt (ti_eq (a := x10.toInt) (b := x11.toInt) rfl rfl).mpr c12
            refine lv_iconst (v := 0) hx hb dX12_isState_93 (by decide) ?_
            exact ro_zret hx hb hr hlocks hS rfl dX12_isState_94 (show 0 ≤ (0 : Int32).toInt ∧ (0 : Int32).toInt ≤ 1 from by decide)
          · have f12 := (ti_eq (a := x10.toInt) (b := x11.toInt) rfl rfl).mp c12
            refine lv_aload_n hx hb dX12_isState_50 rfl (lv_at hl 1 rfl) ?_
            refine va_get (D := D) (ci := 12) (v := .ref (a 53)) (C := RX12) (T := TX12) (N := 69) hx hb hts (fun _ h => List.mem_cons_of_mem _ (List.mem_append_right _ h)) hown hK hP 0 rfl rfl 53 (by decide) (hts (.fieldLink RX12 114 "TalePlayModel" "stateShut" "[B") (by decide +kernel)) (fun _ h9 => h9) rfl dX12_isState_51 ?_
            refine lv_bipush (v := 30) hx hb dX12_isState_54 (by decide) ?_
            refine lv_iload_n hx hb dX12_isState_56 rfl (lv_at hl 2 rfl) ?_
            refine lv_imul hx hb dX12_isState_57 ?_
            refine lv_topi (fun x13 ex13 => ?_)
            have tx13 := ti_mul (a := 30) (b := s1.toInt) ex13 (by decide) rfl (by omega) (by omega)
            refine lv_iload_n hx hb dX12_isState_58 rfl (lv_at hl 0 rfl) ?_
            refine lv_iadd hx hb dX12_isState_59 ?_
            refine lv_topi (fun x14 ex14 => ?_)
            have tx14 := ti_add (a := (30 * s1.toInt)) (b := y1_2.toInt) ex14 tx13 rfl (by omega) (by omega)
            refine va_bald hx hb hK hP 35 34 rfl rfl (vp_in_iff.mpr (by have h9 : x14.toInt = ((30 * s1.toInt) + y1_2.toInt) := tx14; omega)) dX12_isState_60 ?_
            refine lv_topi (fun x15 ex15 => ?_)
            have rx15 : 0 ≤ x15.toInt ∧ x15.toInt ≤ 3 := by rw [ex15]; exact hI.2 53 _
            refine lv_aload_n hx hb dX12_isState_61 rfl (lv_at hl 1 rfl) ?_
            refine va_get (D := D) (ci := 12) (v := .ref (a 25)) (C := RX12) (T := TX12) (N := 69) hx hb hts (fun _ h => List.mem_cons_of_mem _ (List.mem_append_right _ h)) hown hK hP 0 rfl rfl 25 (by decide) (hts (.fieldLink RX12 56 "TalePlayModel" "nOpen" "[Z") (by decide +kernel)) (fun _ h9 => h9) rfl dX12_isState_62 ?_
            refine lv_iload_n hx hb dX12_isState_65 rfl (lv_at hl 0 rfl) ?_
            refine va_zald hx hb hK hP 16 15 rfl rfl (vp_in_iff.mpr (by have h9 : y1_2.toInt = y1_2.toInt := rfl; omega)) dX12_isState_66 ?_
            refine lv_topi (fun x16 ex16 => ?_)
            have rx16 : 0 ≤ x16.toInt ∧ x16.toInt ≤ 1 := by rw [ex16]; exact hI.2 25 _
            refine lv_if_eq (tgt := 74) hx hb dX12_isState_67 (by decide) (fun c17 => ?_) (fun c17 => ?_)
            · have f17 := (ti_eq (a := x16.toInt) (b := 0) rfl (by decide)).mp c17
              refine lv_iconst (v := 0) hx hb dX12_isState_74 (by decide) ?_
              refine lv_aload_n hx hb dX12_isState_75 rfl (lv_at hl 1 rfl) ?_
              refine va_get (D := D) (ci := 12) (v := .ref (a 26)) (C := RX12) (T := TX12) (N := 69) hx hb hts (fun _ h => List.mem_cons_of_mem _ (List.mem_append_right _ h)) hown hK hP 0 rfl rfl 26 (by decide) (hts (.fieldLink RX12 59 "TalePlayModel" "nLocked" "[Z") (by decide +kernel)) (fun _ h9 => h9) rfl dX12_isState_76 ?_
              refine lv_iload_n hx hb dX12_isState_79 rfl (lv_at hl 0 rfl) ?_
              refine va_zald hx hb hK hP 17 16 rfl rfl (vp_in_iff.mpr (by have h9 : y1_2.toInt = y1_2.toInt := rfl; omega)) dX12_isState_80 ?_
              refine lv_topi (fun x18 ex18 => ?_)
              have rx18 : 0 ≤ x18.toInt ∧ x18.toInt ≤ 1 := by rw [ex18]; exact hI.2 26 _
              refine lv_if_eq (tgt := 88) hx hb dX12_isState_81 (by decide) (fun c19 => ?_) (fun c19 => ?_)
              · have f19 := (ti_eq (a := x18.toInt) (b := 0) rfl (by decide)).mp c19
                refine lv_iconst (v := 0) hx hb dX12_isState_88 (by decide) ?_
                refine lv_iadd hx hb dX12_isState_89 ?_
                refine tp_i (y := 0) (by decide) ?_
                refine lv_icmp_eq (tgt := 95) hx hb dX12_isState_90 (by decide) (fun c20 => ?_) (fun c20 => ?_)
                · have f20 := (ti_eq (a := x15.toInt) (b := 0) rfl (by decide)).mp c20
                  obtain ⟨x21, ex21⟩ : ∃ y : Int32, y = y1_2 + 1 := ⟨_, rfl⟩
                  have tx21 := ti_add (a := y1_2.toInt) (b := 1) ex21 rfl (by decide) (by omega) (by omega)
                  refine lv_iinc (v := x21) (lv' := [(2, .int x21), (0, .ref o), (1, .int s1)]) hx hb dX12_isState_95 hl (k := 0) rfl (by rw [ex21]; rfl) (by decide) rfl (fun ls hl => ?_)
                  refine lv_goto (tgt := 2) hx hb dX12_isState_98 (by decide) ?_
                  exact ih x21 (by have h82 : x21.toInt = (y1_2.toInt + 1) := tx21; omega) (by have h82 : x21.toInt = (y1_2.toInt + 1) := tx21; omega) _ _ _ hP hS (lv_sub hl [0, 1, 2] rfl)
                · have f20 := mt (ti_eq (a := x15.toInt) (b := 0) rfl (by decide)).mpr c20
                  refine lv_iconst (v := 0) hx hb dX12_isState_93 (by decide) ?_
                  exact ro_zret hx hb hr hlocks hS rfl dX12_isState_94 (show 0 ≤ (0 : Int32).toInt ∧ (0 : Int32).toInt ≤ 1 from by decide)
              · have f19 := mt (ti_eq (a := x18.toInt) (b := 0) rfl (by decide)).mpr c19
                refine lv_iconst (v := 2) hx hb dX12_isState_84 (by decide) ?_
                refine lv_goto (tgt := 89) hx hb dX12_isState_85 (by decide) ?_
                refine lv_iadd hx hb dX12_isState_89 ?_
                refine tp_i (y := 2) (by decide) ?_
                refine lv_icmp_eq (tgt := 95) hx hb dX12_isState_90 (by decide) (fun c22 => ?_) (fun c22 => ?_)
                · have f22 := (ti_eq (a := x15.toInt) (b := 2) rfl (by decide)).mp c22
                  obtain ⟨x23, ex23⟩ : ∃ y : Int32, y = y1_2 + 1 := ⟨_, rfl⟩
                  have tx23 := ti_add (a := y1_2.toInt) (b := 1) ex23 rfl (by decide) (by omega) (by omega)
                  refine lv_iinc (v := x23) (lv' := [(2, .int x23), (0, .ref o), (1, .int s1)]) hx hb dX12_isState_95 hl (k := 0) rfl (by rw [ex23]; rfl) (by decide) rfl (fun ls hl => ?_)
                  refine lv_goto (tgt := 2) hx hb dX12_isState_98 (by decide) ?_
                  exact ih x23 (by have h82 : x23.toInt = (y1_2.toInt + 1) := tx23; omega) (by have h82 : x23.toInt = (y1_2.toInt + 1) := tx23; omega) _ _ _ hP hS (lv_sub hl [0, 1, 2] rfl)
                · have f22 := mt (ti_eq (a := x15.toInt) (b := 2) rfl (by decide)).mpr c22
                  refine lv_iconst (v := 0) hx hb dX12_isState_93 (by decide) ?_
                  exact ro_zret hx hb hr hlocks hS rfl dX12_isState_94 (show 0 ≤ (0 : Int32).toInt ∧ (0 : Int32).toInt ≤ 1 from by decide)
            · have f17 := mt (ti_eq (a := x16.toInt) (b := 0) rfl (by decide)).mpr c17
              refine lv_iconst (v := 1) hx hb dX12_isState_70 (by decide) ?_
              refine lv_goto (tgt := 75) hx hb dX12_isState_71 (by decide) ?_
              refine lv_aload_n hx hb dX12_isState_75 rfl (lv_at hl 1 rfl) ?_
              refine va_get (D := D) (ci := 12) (v := .ref (a 26)) (C := RX12) (T := TX12) (N := 69) hx hb hts (fun _ h => List.mem_cons_of_mem _ (List.mem_append_right _ h)) hown hK hP 0 rfl rfl 26 (by decide) (hts (.fieldLink RX12 59 "TalePlayModel" "nLocked" "[Z") (by decide +kernel)) (fun _ h9 => h9) rfl dX12_isState_76 ?_
              refine lv_iload_n hx hb dX12_isState_79 rfl (lv_at hl 0 rfl) ?_
              refine va_zald hx hb hK hP 17 16 rfl rfl (vp_in_iff.mpr (by have h9 : y1_2.toInt = y1_2.toInt := rfl; omega)) dX12_isState_80 ?_
              refine lv_topi (fun x24 ex24 => ?_)
              have rx24 : 0 ≤ x24.toInt ∧ x24.toInt ≤ 1 := by rw [ex24]; exact hI.2 26 _
              refine lv_if_eq (tgt := 88) hx hb dX12_isState_81 (by decide) (fun c25 => ?_) (fun c25 => ?_)
              · have f25 := (ti_eq (a := x24.toInt) (b := 0) rfl (by decide)).mp c25
                refine lv_iconst (v := 0) hx hb dX12_isState_88 (by decide) ?_
                refine lv_iadd hx hb dX12_isState_89 ?_
                refine tp_i (y := 1) (by decide) ?_
                refine lv_icmp_eq (tgt := 95) hx hb dX12_isState_90 (by decide) (fun c26 => ?_) (fun c26 => ?_)
                · have f26 := (ti_eq (a := x15.toInt) (b := 1) rfl (by decide)).mp c26
                  obtain ⟨x27, ex27⟩ : ∃ y : Int32, y = y1_2 + 1 := ⟨_, rfl⟩
                  have tx27 := ti_add (a := y1_2.toInt) (b := 1) ex27 rfl (by decide) (by omega) (by omega)
                  refine lv_iinc (v := x27) (lv' := [(2, .int x27), (0, .ref o), (1, .int s1)]) hx hb dX12_isState_95 hl (k := 0) rfl (by rw [ex27]; rfl) (by decide) rfl (fun ls hl => ?_)
                  refine lv_goto (tgt := 2) hx hb dX12_isState_98 (by decide) ?_
                  exact ih x27 (by have h82 : x27.toInt = (y1_2.toInt + 1) := tx27; omega) (by have h82 : x27.toInt = (y1_2.toInt + 1) := tx27; omega) _ _ _ hP hS (lv_sub hl [0, 1, 2] rfl)
                · have f26 := mt (ti_eq (a := x15.toInt) (b := 1) rfl (by decide)).mpr c26
                  refine lv_iconst (v := 0) hx hb dX12_isState_93 (by decide) ?_
                  exact ro_zret hx hb hr hlocks hS rfl dX12_isState_94 (show 0 ≤ (0 : Int32).toInt ∧ (0 : Int32).toInt ≤ 1 from by decide)
              · have f25 := mt (ti_eq (a := x24.toInt) (b := 0) rfl (by decide)).mpr c25
                refine lv_iconst (v := 2) hx hb dX12_isState_84 (by decide) ?_
                refine lv_goto (tgt := 89) hx hb dX12_isState_85 (by decide) ?_
                refine lv_iadd hx hb dX12_isState_89 ?_
                refine tp_i (y := 3) (by decide) ?_
                refine lv_icmp_eq (tgt := 95) hx hb dX12_isState_90 (by decide) (fun c28 => ?_) (fun c28 => ?_)
                · have f28 := (ti_eq (a := x15.toInt) (b := 3) rfl (by decide)).mp c28
                  obtain ⟨x29, ex29⟩ : ∃ y : Int32, y = y1_2 + 1 := ⟨_, rfl⟩
                  have tx29 := ti_add (a := y1_2.toInt) (b := 1) ex29 rfl (by decide) (by omega) (by omega)
                  refine lv_iinc (v := x29) (lv' := [(2, .int x29), (0, .ref o), (1, .int s1)]) hx hb dX12_isState_95 hl (k := 0) rfl (by rw [ex29]; rfl) (by decide) rfl (fun ls hl => ?_)
                  refine lv_goto (tgt := 2) hx hb dX12_isState_98 (by decide) ?_
                  exact ih x29 (by have h82 : x29.toInt = (y1_2.toInt + 1) := tx29; omega) (by have h82 : x29.toInt = (y1_2.toInt + 1) := tx29; omega) _ _ _ hP hS (lv_sub hl [0, 1, 2] rfl)
                · have f28 := mt (ti_eq (a := x15.toInt) (b := 3) rfl (by decide)).mpr c28
                  refine lv_iconst (v := 0) hx hb dX12_isState_93 (by decide) ?_
                  exact ro_zret hx hb hr hlocks hS rfl dX12_isState_94 (show 0 ≤ (0 : Int32).toInt ∧ (0 : Int32).toInt ≤ 1 from by decide)
  exact lp1 _ (0 : Int32) (by have h82 : (0 : Int32).toInt = 0 := (by decide); omega) (Nat.lt_succ_self _) _ _ _ hP hS (lv_sub hl [0, 1, 2] rfl)

def wm_X12_formNow : List Cond := .code yX12_formNow cX12_formNow 3 (some .int) :: (([.fieldLink RX12 155 "TalePlayModel" "player" "I", .methodLink RX12 208 yX12_placing, .instanceMethod yX12_placing, .selects RX12 yX12_placing yX12_placing, .initialized RX12, .code yX12_placing cX12_placing 3 (some .int), .fieldLink RX12 202 "TalePlayModel" "sentences" "I", .fieldLink RX12 37 "TalePlayModel" "isSaid" "[Z", .fieldLink RX12 25 "TalePlayModel" "form" "[I", .fieldLink RX12 28 "TalePlayModel" "left" "[I", .fieldLink RX12 50 "TalePlayModel" "nForm" "[I"] : List Cond) ++ wsX120)
set_option maxRecDepth 20000 in
theorem gm_X12_formNow_X12_placing : GoodIn wm_X12_formNow (wsV RX12 208 RX12 yX12_placing wm_X12_placing) := goodIn_app (goodIn_of _ (by decide +kernel)) (goodIn_r _ [6, 7, 8, 9, 10, 12, 13, 14, 15, 16, 17, 18, 19, 20, 21, 22, 23, 24, 25, 26, 27, 28, 29, 30, 31, 32, 33, 34, 35, 36, 37, 38, 39, 40, 41, 42, 43, 44, 45, 46, 47, 48, 49, 50, 51, 52, 53, 54, 55, 56, 57, 58, 59, 60, 61, 62, 63, 64, 65, 66, 67, 68, 69, 70, 71, 72, 73, 74, 75, 76, 77, 78, 79, 80] (by decide +kernel) (by decide +kernel))
set_option maxHeartbeats 4000000 in
set_option maxRecDepth 100000 in
theorem s_X12_formNow (l : Launch) (D : va_G) (sz : Nat) (o : Nat) (a : Nat → Nat) (t : Nat → ClassId) (i : Nat → Int32) (q : Int64) (c : Nat → Nat → Int32) (d : Nat → Nat → Int64) (w : Int32) (hI : mInv i c) (hw : 0 ≤ w.toInt ∧ w.toInt ≤ 29) : Met l yX12_formNow wm_X12_formNow ({ frames := 1, cells := 0, slots := 0, locals := 22 }) (va_Pc [.ref o, .int w] (pA D sz (mW o a t i q c d) (mT t))) (va_Qi (fun (r : Int32) (_ : Unit) => (r.toInt = -9 ∨ (0 ≤ r.toInt ∧ r.toInt ≤ 7))) oA (ro sz)) 0 0 (ro sz) := by
  refine Met.ofW (cc := cX12_formNow) (maxL := 3) (ret := (some .int)) (by decide) rfl ?_
  intro p e s m args below meth cd s₁ B hml hv
  obtain ⟨rfl, hsz, hP, hK⟩ := hv
  have hx := B.exec
  have hb := B.bytes
  have hr := B.returns
  have hts := atoms_spec (ws := wm_X12_formNow) B.pre
  have hown : s.vm.findClass RX12 = some m.cls := findClass_of_methodNamed B.named
  have hlocks := B.notSynchronized
  subst hsz
  have hA : ∀ q : Nat, s.heap.size ≤ q → ro s.heap.size q := fun _ h => h
  have hS : va_S (ro s.heap.size) s.heap s.heap [] := va_S.rf
  have hl := lv_entry ([.ref o, .int w]) (n := 3) (Nat.le_of_ble_eq_true rfl)
  rw [lg_entry_eq]
  generalize (lg_sl ([.ref o, .int w]) ++ List.replicate (3 - (lg_sl ([.ref o, .int w])).length) Slot.unset).toArray = ls at hl ⊢
  have hl : lv_has ls 3 [(0, .ref o), (1, .int w)] := hl
  refine lv_aload_n hx hb dX12_formNow_0 rfl (lv_at hl 0 rfl) ?_
  refine va_get (D := D) (ci := 12) (v := .int (i 22)) (C := RX12) (T := TX12) (N := 69) hx hb hts (fun _ h => List.mem_cons_of_mem _ (List.mem_append_right _ h)) hown hK hP 0 rfl rfl 22 (by decide) (hts (.fieldLink RX12 155 "TalePlayModel" "player" "I") (by decide +kernel)) (fun _ h9 => h9) rfl dX12_formNow_1 ?_
  have rb22_i : (i 22).toInt = -9 ∨ (0 ≤ (i 22).toInt ∧ (i 22).toInt ≤ 29) := hI.1 22
  refine lv_bipush (v := (-9)) hx hb dX12_formNow_4 (by decide) ?_
  refine lv_icmp_eq (tgt := 16) hx hb dX12_formNow_6 (by decide) (fun c1 => ?_) (fun c1 => ?_)
  · have f1 := (ti_eq (a := (i 22).toInt) (b := (-9)) rfl (by decide)).mp c1
    refine lv_aload_n hx hb dX12_formNow_16 rfl (lv_at hl 0 rfl) ?_
    refine lv_iload_n hx hb dX12_formNow_17 rfl (lv_at hl 1 rfl) ?_
    refine ro_calli (va_runV (As := [.int w]) (rest := []) ⟨hx, hb, hml, hown, hts⟩ (s_X12_placing l D s.heap.size o a t i q c d w hI ) (cwV 1 hts gm_X12_formNow_X12_placing rfl rfl rfl (by decide +kernel) ⟨Nat.le_of_ble_eq_true rfl, Nat.le_of_ble_eq_true rfl⟩) (pA_V hK hP (ci := 12) (q0 := 0) rfl rfl) rfl rfl hl.1 rfl (lv_room (Nat.le_of_ble_eq_true rfl)) dX12_formNow_18 ⟨Nat.le_of_ble_eq_true rfl, Nat.le_of_ble_eq_true rfl⟩) hS hA hP (fun r2 u2 H locs hw2 hP hS => ?_)
    have hw2 : r2.toInt = -9 ∨ (0 ≤ r2.toInt ∧ r2.toInt ≤ 199) := hw2
    refine lv_istore_n (lv' := [(2, .int r2), (0, .ref o), (1, .int w)]) hx hb dX12_formNow_21 rfl hl (by decide) rfl (fun ls hl => ?_)
    refine lv_iload_n hx hb dX12_formNow_22 rfl (lv_at hl 0 rfl) ?_
    refine lv_bipush (v := (-9)) hx hb dX12_formNow_23 (by decide) ?_
    refine lv_icmp_ne (tgt := 33) hx hb dX12_formNow_25 (by decide) (fun c3 => ?_) (fun c3 => ?_)
    · have f3 := mt (ti_eq (a := r2.toInt) (b := (-9)) rfl (by decide)).mpr c3
      refine lv_aload_n hx hb dX12_formNow_33 rfl (lv_at hl 1 rfl) ?_
      refine va_get (D := D) (ci := 12) (v := .ref (a 9)) (C := RX12) (T := TX12) (N := 69) hx hb hts (fun _ h => List.mem_cons_of_mem _ (List.mem_append_right _ h)) hown hK hP 0 rfl rfl 9 (by decide) (hts (.fieldLink RX12 25 "TalePlayModel" "form" "[I") (by decide +kernel)) (fun _ h9 => h9) rfl dX12_formNow_34 ?_
      refine lv_iload_n hx hb dX12_formNow_37 rfl (lv_at hl 0 rfl) ?_
      refine va_iald hx hb hK hP 6 5 rfl rfl (vp_in_iff.mpr (by have h9 : r2.toInt = r2.toInt := rfl; omega)) dX12_formNow_38 ?_
      refine lv_topi (fun x4 ex4 => ?_)
      have rx4 : 0 ≤ x4.toInt ∧ x4.toInt ≤ 7 := by rw [ex4]; exact hI.2 9 _
      exact ro_iret hx hb hr hlocks hS dX12_formNow_39 (show x4.toInt = -9 ∨ (0 ≤ x4.toInt ∧ x4.toInt ≤ 7) from by omega)
    · have f3 := (ti_eq (a := r2.toInt) (b := (-9)) rfl (by decide)).mp c3
      refine lv_bipush (v := (-9)) hx hb dX12_formNow_28 (by decide) ?_
      refine lv_goto (tgt := 39) hx hb dX12_formNow_30 (by decide) ?_
      exact ro_iret hx hb hr hlocks hS dX12_formNow_39 (show ((-9) : Int32).toInt = -9 ∨ (0 ≤ ((-9) : Int32).toInt ∧ ((-9) : Int32).toInt ≤ 7) from by decide)
  · have f1 := mt (ti_eq (a := (i 22).toInt) (b := (-9)) rfl (by decide)).mpr c1
    refine lv_aload_n hx hb dX12_formNow_9 rfl (lv_at hl 0 rfl) ?_
    refine va_get (D := D) (ci := 12) (v := .ref (a 23)) (C := RX12) (T := TX12) (N := 69) hx hb hts (fun _ h => List.mem_cons_of_mem _ (List.mem_append_right _ h)) hown hK hP 0 rfl rfl 23 (by decide) (hts (.fieldLink RX12 50 "TalePlayModel" "nForm" "[I") (by decide +kernel)) (fun _ h9 => h9) rfl dX12_formNow_10 ?_
    refine lv_iload_n hx hb dX12_formNow_13 rfl (lv_at hl 1 rfl) ?_
    refine va_iald hx hb hK hP 14 13 rfl rfl (vp_in_iff.mpr (by have h9 : w.toInt = w.toInt := rfl; omega)) dX12_formNow_14 ?_
    refine lv_topi (fun x5 ex5 => ?_)
    have rx5 : x5.toInt = -9 ∨ (0 ≤ x5.toInt ∧ x5.toInt ≤ 4) := by rw [ex5]; exact hI.2 23 _
    exact ro_iret hx hb hr hlocks hS dX12_formNow_15 (show x5.toInt = -9 ∨ (0 ≤ x5.toInt ∧ x5.toInt ≤ 7) from by omega)

def wm_X12_atNow : List Cond := .code yX12_atNow cX12_atNow 3 (some .int) :: (([.fieldLink RX12 155 "TalePlayModel" "player" "I", .methodLink RX12 208 yX12_placing, .instanceMethod yX12_placing, .selects RX12 yX12_placing yX12_placing, .initialized RX12, .code yX12_placing cX12_placing 3 (some .int), .fieldLink RX12 202 "TalePlayModel" "sentences" "I", .fieldLink RX12 37 "TalePlayModel" "isSaid" "[Z", .fieldLink RX12 25 "TalePlayModel" "form" "[I", .fieldLink RX12 28 "TalePlayModel" "left" "[I", .fieldLink RX12 31 "TalePlayModel" "middle" "[I", .fieldLink RX12 53 "TalePlayModel" "nAt" "[I"] : List Cond) ++ wsX120)
set_option maxRecDepth 20000 in
theorem gm_X12_atNow_X12_placing : GoodIn wm_X12_atNow (wsV RX12 208 RX12 yX12_placing wm_X12_placing) := goodIn_app (goodIn_of _ (by decide +kernel)) (goodIn_r _ [6, 7, 8, 9, 10, 13, 14, 15, 16, 17, 18, 19, 20, 21, 22, 23, 24, 25, 26, 27, 28, 29, 30, 31, 32, 33, 34, 35, 36, 37, 38, 39, 40, 41, 42, 43, 44, 45, 46, 47, 48, 49, 50, 51, 52, 53, 54, 55, 56, 57, 58, 59, 60, 61, 62, 63, 64, 65, 66, 67, 68, 69, 70, 71, 72, 73, 74, 75, 76, 77, 78, 79, 80, 81] (by decide +kernel) (by decide +kernel))
set_option maxHeartbeats 4000000 in
set_option maxRecDepth 100000 in
theorem s_X12_atNow (l : Launch) (D : va_G) (sz : Nat) (o : Nat) (a : Nat → Nat) (t : Nat → ClassId) (i : Nat → Int32) (q : Int64) (c : Nat → Nat → Int32) (d : Nat → Nat → Int64) (w : Int32) (hI : mInv i c) (hw : 0 ≤ w.toInt ∧ w.toInt ≤ 29) : Met l yX12_atNow wm_X12_atNow ({ frames := 1, cells := 0, slots := 0, locals := 22 }) (va_Pc [.ref o, .int w] (pA D sz (mW o a t i q c d) (mT t))) (va_Qi (fun (r : Int32) (_ : Unit) => (r.toInt = -9 ∨ (0 ≤ r.toInt ∧ r.toInt ≤ 29))) oA (ro sz)) 0 0 (ro sz) := by
  refine Met.ofW (cc := cX12_atNow) (maxL := 3) (ret := (some .int)) (by decide) rfl ?_
  intro p e s m args below meth cd s₁ B hml hv
  obtain ⟨rfl, hsz, hP, hK⟩ := hv
  have hx := B.exec
  have hb := B.bytes
  have hr := B.returns
  have hts := atoms_spec (ws := wm_X12_atNow) B.pre
  have hown : s.vm.findClass RX12 = some m.cls := findClass_of_methodNamed B.named
  have hlocks := B.notSynchronized
  subst hsz
  have hA : ∀ q : Nat, s.heap.size ≤ q → ro s.heap.size q := fun _ h => h
  have hS : va_S (ro s.heap.size) s.heap s.heap [] := va_S.rf
  have hl := lv_entry ([.ref o, .int w]) (n := 3) (Nat.le_of_ble_eq_true rfl)
  rw [lg_entry_eq]
  generalize (lg_sl ([.ref o, .int w]) ++ List.replicate (3 - (lg_sl ([.ref o, .int w])).length) Slot.unset).toArray = ls at hl ⊢
  have hl : lv_has ls 3 [(0, .ref o), (1, .int w)] := hl
  refine lv_aload_n hx hb dX12_atNow_0 rfl (lv_at hl 0 rfl) ?_
  refine va_get (D := D) (ci := 12) (v := .int (i 22)) (C := RX12) (T := TX12) (N := 69) hx hb hts (fun _ h => List.mem_cons_of_mem _ (List.mem_append_right _ h)) hown hK hP 0 rfl rfl 22 (by decide) (hts (.fieldLink RX12 155 "TalePlayModel" "player" "I") (by decide +kernel)) (fun _ h9 => h9) rfl dX12_atNow_1 ?_
  have rb22_i : (i 22).toInt = -9 ∨ (0 ≤ (i 22).toInt ∧ (i 22).toInt ≤ 29) := hI.1 22
  refine lv_bipush (v := (-9)) hx hb dX12_atNow_4 (by decide) ?_
  refine lv_icmp_eq (tgt := 16) hx hb dX12_atNow_6 (by decide) (fun c1 => ?_) (fun c1 => ?_)
  · have f1 := (ti_eq (a := (i 22).toInt) (b := (-9)) rfl (by decide)).mp c1
    refine lv_aload_n hx hb dX12_atNow_16 rfl (lv_at hl 0 rfl) ?_
    refine lv_iload_n hx hb dX12_atNow_17 rfl (lv_at hl 1 rfl) ?_
    refine ro_calli (va_runV (As := [.int w]) (rest := []) ⟨hx, hb, hml, hown, hts⟩ (s_X12_placing l D s.heap.size o a t i q c d w hI ) (cwV 1 hts gm_X12_atNow_X12_placing rfl rfl rfl (by decide +kernel) ⟨Nat.le_of_ble_eq_true rfl, Nat.le_of_ble_eq_true rfl⟩) (pA_V hK hP (ci := 12) (q0 := 0) rfl rfl) rfl rfl hl.1 rfl (lv_room (Nat.le_of_ble_eq_true rfl)) dX12_atNow_18 ⟨Nat.le_of_ble_eq_true rfl, Nat.le_of_ble_eq_true rfl⟩) hS hA hP (fun r2 u2 H locs hw2 hP hS => ?_)
    have hw2 : r2.toInt = -9 ∨ (0 ≤ r2.toInt ∧ r2.toInt ≤ 199) := hw2
    refine lv_istore_n (lv' := [(2, .int r2), (0, .ref o), (1, .int w)]) hx hb dX12_atNow_21 rfl hl (by decide) rfl (fun ls hl => ?_)
    refine lv_iload_n hx hb dX12_atNow_22 rfl (lv_at hl 0 rfl) ?_
    refine lv_bipush (v := (-9)) hx hb dX12_atNow_23 (by decide) ?_
    refine lv_icmp_ne (tgt := 33) hx hb dX12_atNow_25 (by decide) (fun c3 => ?_) (fun c3 => ?_)
    · have f3 := mt (ti_eq (a := r2.toInt) (b := (-9)) rfl (by decide)).mpr c3
      refine lv_aload_n hx hb dX12_atNow_33 rfl (lv_at hl 1 rfl) ?_
      refine va_get (D := D) (ci := 12) (v := .ref (a 11)) (C := RX12) (T := TX12) (N := 69) hx hb hts (fun _ h => List.mem_cons_of_mem _ (List.mem_append_right _ h)) hown hK hP 0 rfl rfl 11 (by decide) (hts (.fieldLink RX12 31 "TalePlayModel" "middle" "[I") (by decide +kernel)) (fun _ h9 => h9) rfl dX12_atNow_34 ?_
      refine lv_iload_n hx hb dX12_atNow_37 rfl (lv_at hl 0 rfl) ?_
      refine va_iald hx hb hK hP 8 7 rfl rfl (vp_in_iff.mpr (by have h9 : r2.toInt = r2.toInt := rfl; omega)) dX12_atNow_38 ?_
      refine lv_topi (fun x4 ex4 => ?_)
      have rx4 : 0 ≤ x4.toInt ∧ x4.toInt ≤ 29 := by rw [ex4]; exact hI.2 11 _
      exact ro_iret hx hb hr hlocks hS dX12_atNow_39 (show x4.toInt = -9 ∨ (0 ≤ x4.toInt ∧ x4.toInt ≤ 29) from by omega)
    · have f3 := (ti_eq (a := r2.toInt) (b := (-9)) rfl (by decide)).mp c3
      refine lv_bipush (v := (-9)) hx hb dX12_atNow_28 (by decide) ?_
      refine lv_goto (tgt := 39) hx hb dX12_atNow_30 (by decide) ?_
      exact ro_iret hx hb hr hlocks hS dX12_atNow_39 (show ((-9) : Int32).toInt = -9 ∨ (0 ≤ ((-9) : Int32).toInt ∧ ((-9) : Int32).toInt ≤ 29) from by decide)
  · have f1 := mt (ti_eq (a := (i 22).toInt) (b := (-9)) rfl (by decide)).mpr c1
    refine lv_aload_n hx hb dX12_atNow_9 rfl (lv_at hl 0 rfl) ?_
    refine va_get (D := D) (ci := 12) (v := .ref (a 24)) (C := RX12) (T := TX12) (N := 69) hx hb hts (fun _ h => List.mem_cons_of_mem _ (List.mem_append_right _ h)) hown hK hP 0 rfl rfl 24 (by decide) (hts (.fieldLink RX12 53 "TalePlayModel" "nAt" "[I") (by decide +kernel)) (fun _ h9 => h9) rfl dX12_atNow_10 ?_
    refine lv_iload_n hx hb dX12_atNow_13 rfl (lv_at hl 1 rfl) ?_
    refine va_iald hx hb hK hP 15 14 rfl rfl (vp_in_iff.mpr (by have h9 : w.toInt = w.toInt := rfl; omega)) dX12_atNow_14 ?_
    refine lv_topi (fun x5 ex5 => ?_)
    have rx5 : x5.toInt = -9 ∨ (0 ≤ x5.toInt ∧ x5.toInt ≤ 29) := by rw [ex5]; exact hI.2 24 _
    exact ro_iret hx hb hr hlocks hS dX12_atNow_15 (show x5.toInt = -9 ∨ (0 ≤ x5.toInt ∧ x5.toInt ≤ 29) from by omega)

def wm_X12_body : List Cond := .code yX12_body cX12_body 2 none :: (([.fieldLink RX12 294 "TalePlayModel" "traces" "Z", .fieldLink RX12 297 "TalePlayModel" "traced" "I", .fieldLink RX12 77 "TalePlayModel" "trace" "[I"] : List Cond) ++ wsX120)
set_option maxHeartbeats 4000000 in
set_option maxRecDepth 100000 in
theorem s_X12_body (l : Launch) (D : va_G) (sz : Nat) (o : Nat) (a : Nat → Nat) (t : Nat → ClassId) (i : Nat → Int32) (q : Int64) (c : Nat → Nat → Int32) (d : Nat → Nat → Int64) (b1 : Int32) (hI : mInv i c) (hb1 : 0 ≤ b1.toInt ∧ b1.toInt ≤ 5) : Met l yX12_body wm_X12_body ({ frames := 0, cells := 0, slots := 0, locals := 0 }) (va_Pc [.ref o, .int b1] (pB D sz (mW o a t i q c d) (mT t))) (va_Qv (fun (u : MS) => True ∧ mInv u.1 u.2.2.1 ∧ (∀ k, k ∉ ([35] : List Nat) → u.1 k = i k) ∧ (∀ k, k ∉ ([34] : List Nat) → u.2.2.1 k = c k)) (oC D (va_A (mW o a t i q c d) sz) (fun u : MS => mW o a t u.1 u.2.1 u.2.2.1 u.2.2.2) (fun _ => [])) (va_A (mW o a t i q c d) sz)) 0 0 (va_A (mW o a t i q c d) sz) := by
  refine Met.ofW (cc := cX12_body) (maxL := 2) (ret := none) (by decide) rfl ?_
  intro p e s m args below meth cd s₁ B hml hv
  obtain ⟨rfl, hsz, hP, hK, hD0⟩ := hv
  have hx := B.exec
  have hb := B.bytes
  have hr := B.returns
  have hts := atoms_spec (ws := wm_X12_body) B.pre
  have hown : s.vm.findClass RX12 = some m.cls := findClass_of_methodNamed B.named
  have hlocks := B.notSynchronized
  subst hsz
  have hD := hD0.self (sz := s.heap.size)
  generalize hAe : va_A (mW o a t i q c d) s.heap.size = A at hD ⊢
  have hA : ∀ q : Nat, s.heap.size ≤ q → A q := fun q h => by rw [← hAe]; exact Or.inr h
  have hS : va_S A s.heap s.heap [] := va_S.rf
  have hfi : ∀ k, k ∉ ([35] : List Nat) → i k = i k := fun _ _ => rfl
  have hfc : ∀ k, k ∉ ([34] : List Nat) → c k = c k := fun _ _ => rfl
  have hl := lv_entry ([.ref o, .int b1]) (n := 2) (Nat.le_of_ble_eq_true rfl)
  rw [lg_entry_eq]
  generalize (lg_sl ([.ref o, .int b1]) ++ List.replicate (2 - (lg_sl ([.ref o, .int b1])).length) Slot.unset).toArray = ls at hl ⊢
  have hl : lv_has ls 2 [(0, .ref o), (1, .int b1)] := hl
  refine lv_aload_n hx hb dX12_body_0 rfl (lv_at hl 0 rfl) ?_
  refine va_get (D := D) (ci := 12) (v := .int (i 33)) (C := RX12) (T := TX12) (N := 69) hx hb hts (fun _ h => List.mem_cons_of_mem _ (List.mem_append_right _ h)) hown hK hP 0 rfl rfl 33 (by decide) (hts (.fieldLink RX12 294 "TalePlayModel" "traces" "Z") (by decide +kernel)) (fun _ h9 => h9) rfl dX12_body_1 ?_
  have rb33_i : 0 ≤ (i 33).toInt ∧ (i 33).toInt ≤ 1 := hI.1 33
  refine lv_if_eq (tgt := 36) hx hb dX12_body_4 (by decide) (fun c1 => ?_) (fun c1 => ?_)
  · have f1 := (ti_eq (a := (i 33).toInt) (b := 0) rfl (by decide)).mp c1
    exact rw_vret (i, q, c, d) hx hb hr hlocks hS (hK.sub (tys' := []) [] rfl) hP hD dX12_body_36 ⟨trivial, hI, hfi, hfc⟩
  · have f1 := mt (ti_eq (a := (i 33).toInt) (b := 0) rfl (by decide)).mpr c1
    refine lv_aload_n hx hb dX12_body_7 rfl (lv_at hl 0 rfl) ?_
    refine va_get (D := D) (ci := 12) (v := .int (i 35)) (C := RX12) (T := TX12) (N := 69) hx hb hts (fun _ h => List.mem_cons_of_mem _ (List.mem_append_right _ h)) hown hK hP 0 rfl rfl 35 (by decide) (hts (.fieldLink RX12 297 "TalePlayModel" "traced" "I") (by decide +kernel)) (fun _ h9 => h9) rfl dX12_body_8 ?_
    have rb35_i : 0 ≤ (i 35).toInt ∧ (i 35).toInt ≤ 100 := hI.1 35
    refine lv_bipush (v := 100) hx hb dX12_body_11 (by decide) ?_
    refine lv_icmp_ge (tgt := 36) hx hb dX12_body_13 (by decide) (fun c2 => ?_) (fun c2 => ?_)
    · have f2 := (ti_le (a := 100) (b := (i 35).toInt) (by decide) rfl).mp c2
      exact rw_vret (i, q, c, d) hx hb hr hlocks hS (hK.sub (tys' := []) [] rfl) hP hD dX12_body_36 ⟨trivial, hI, hfi, hfc⟩
    · have f2 := mt (ti_le (a := 100) (b := (i 35).toInt) (by decide) rfl).mpr c2
      refine lv_aload_n hx hb dX12_body_16 rfl (lv_at hl 0 rfl) ?_
      refine va_get (D := D) (ci := 12) (v := .ref (a 34)) (C := RX12) (T := TX12) (N := 69) hx hb hts (fun _ h => List.mem_cons_of_mem _ (List.mem_append_right _ h)) hown hK hP 0 rfl rfl 34 (by decide) (hts (.fieldLink RX12 77 "TalePlayModel" "trace" "[I") (by decide +kernel)) (fun _ h9 => h9) rfl dX12_body_17 ?_
      refine lv_aload_n hx hb dX12_body_20 rfl (lv_at hl 0 rfl) ?_
      refine va_get (D := D) (ci := 12) (v := .int (i 35)) (C := RX12) (T := TX12) (N := 69) hx hb hts (fun _ h => List.mem_cons_of_mem _ (List.mem_append_right _ h)) hown hK hP 0 rfl rfl 35 (by decide) (hts (.fieldLink RX12 297 "TalePlayModel" "traced" "I") (by decide +kernel)) (fun _ h9 => h9) rfl dX12_body_21 ?_
      refine lv_iload_n hx hb dX12_body_24 rfl (lv_at hl 1 rfl) ?_
      refine va_iast hx hb hK hP hD hS 23 22 rfl rfl (vp_in_iff.mpr (by have h9 : (i 35).toInt = (i 35).toInt := rfl; omega)) dX12_body_25 (fun H locs hP hD hS => ?_)
      have hI := mInv_c hI (k := 34) (j := ((i 35) : Int32).toNatClampNeg) (x := b1) (show 0 ≤ (b1 : Int32).toInt ∧ (b1 : Int32).toInt ≤ 5 from by omega)
      have hfc := fr_c hfc (k := 34) (j := ((i 35) : Int32).toNatClampNeg) (x := b1) (by decide)
      have hP : va_P D vwCl (mW o a t i q (updA c 34 ((i 35) : Int32).toNatClampNeg b1) d) H := hP
      have hD : va_D A (mW o a t i q (updA c 34 ((i 35) : Int32).toNatClampNeg b1) d) := hD
      refine lv_aload_n hx hb dX12_body_26 rfl (lv_at hl 0 rfl) ?_
      refine lv_dup hx hb dX12_body_27 rfl ?_
      refine va_get (D := D) (ci := 12) (v := .int (i 35)) (C := RX12) (T := TX12) (N := 69) hx hb hts (fun _ h => List.mem_cons_of_mem _ (List.mem_append_right _ h)) hown hK hP 0 rfl rfl 35 (by decide) (hts (.fieldLink RX12 297 "TalePlayModel" "traced" "I") (by decide +kernel)) (fun _ h9 => h9) rfl dX12_body_28 ?_
      refine lv_iconst (v := 1) hx hb dX12_body_31 (by decide) ?_
      refine lv_iadd hx hb dX12_body_32 ?_
      refine lv_topi (fun x3 ex3 => ?_)
      have tx3 := ti_add (a := (i 35).toInt) (b := 1) ex3 rfl (by decide) (by omega) (by omega)
      refine va_put (D := D) (ci := 12) (v := .int x3) (ty := .int) (C := RX12) (T := TX12) (N := 69) hx hb hts (fun _ h => List.mem_cons_of_mem _ (List.mem_append_right _ h)) tyX12 tyX12_ok nmX12 hown hK hP hD hS 0 rfl rfl 35 (by decide) (hts (.fieldLink RX12 297 "TalePlayModel" "traced" "I") (by decide +kernel)) (fun _ h9 => h9) rfl (by decide +kernel) rfl rfl (Nat.le_of_ble_eq_true rfl) dX12_body_33 (fun H locs hP hD hS => ?_)
      have hI := mInv_i hI (k := 35) (v := x3) (show 0 ≤ (x3 : Int32).toInt ∧ (x3 : Int32).toInt ≤ 100 from by have h9 : x3.toInt = ((i 35).toInt + 1) := tx3; omega)
      have hfi := fr_i hfi (k := 35) (v := x3) (by decide)
      have hP : va_P D vwCl (mW o a t (upd i 35 x3) q (updA c 34 ((i 35) : Int32).toNatClampNeg b1) d) H := hP
      have hD : va_D A (mW o a t (upd i 35 x3) q (updA c 34 ((i 35) : Int32).toNatClampNeg b1) d) := hD
      exact rw_vret ((upd i 35 x3), q, (updA c 34 ((i 35) : Int32).toNatClampNeg b1), d) hx hb hr hlocks hS (hK.sub (tys' := []) [] rfl) hP hD dX12_body_36 ⟨trivial, hI, hfi, hfc⟩

def wm_X12_lay : List Cond := .code yX12_lay cX12_lay 4 none :: (([.fieldLink RX12 50 "TalePlayModel" "nForm" "[I", .fieldLink RX12 53 "TalePlayModel" "nAt" "[I"] : List Cond) ++ wsX120)
set_option maxHeartbeats 4000000 in
set_option maxRecDepth 100000 in
theorem s_X12_lay (l : Launch) (D : va_G) (sz : Nat) (o : Nat) (a : Nat → Nat) (t : Nat → ClassId) (i : Nat → Int32) (q : Int64) (c : Nat → Nat → Int32) (d : Nat → Nat → Int64) (w : Int32) (f : Int32) (w2 : Int32) (hI : mInv i c) (hw : 0 ≤ w.toInt ∧ w.toInt ≤ 29) (hf : f.toInt = -9 ∨ (0 ≤ f.toInt ∧ f.toInt ≤ 4)) (hw2 : w2.toInt = -9 ∨ (0 ≤ w2.toInt ∧ w2.toInt ≤ 29)) : Met l yX12_lay wm_X12_lay ({ frames := 0, cells := 0, slots := 0, locals := 0 }) (va_Pc [.ref o, .int w, .int f, .int w2] (pB D sz (mW o a t i q c d) (mT t))) (va_Qv (fun (u : MS) => True ∧ mInv u.1 u.2.2.1 ∧ (∀ k, k ∉ ([] : List Nat) → u.1 k = i k) ∧ (∀ k, k ∉ ([23, 24] : List Nat) → u.2.2.1 k = c k)) (oC D (va_A (mW o a t i q c d) sz) (fun u : MS => mW o a t u.1 u.2.1 u.2.2.1 u.2.2.2) (fun _ => [])) (va_A (mW o a t i q c d) sz)) 0 0 (va_A (mW o a t i q c d) sz) := by
  refine Met.ofW (cc := cX12_lay) (maxL := 4) (ret := none) (by decide) rfl ?_
  intro p e s m args below meth cd s₁ B hml hv
  obtain ⟨rfl, hsz, hP, hK, hD0⟩ := hv
  have hx := B.exec
  have hb := B.bytes
  have hr := B.returns
  have hts := atoms_spec (ws := wm_X12_lay) B.pre
  have hown : s.vm.findClass RX12 = some m.cls := findClass_of_methodNamed B.named
  have hlocks := B.notSynchronized
  subst hsz
  have hD := hD0.self (sz := s.heap.size)
  generalize hAe : va_A (mW o a t i q c d) s.heap.size = A at hD ⊢
  have hA : ∀ q : Nat, s.heap.size ≤ q → A q := fun q h => by rw [← hAe]; exact Or.inr h
  have hS : va_S A s.heap s.heap [] := va_S.rf
  have hfi : ∀ k, k ∉ ([] : List Nat) → i k = i k := fun _ _ => rfl
  have hfc : ∀ k, k ∉ ([23, 24] : List Nat) → c k = c k := fun _ _ => rfl
  have hl := lv_entry ([.ref o, .int w, .int f, .int w2]) (n := 4) (Nat.le_of_ble_eq_true rfl)
  rw [lg_entry_eq]
  generalize (lg_sl ([.ref o, .int w, .int f, .int w2]) ++ List.replicate (4 - (lg_sl ([.ref o, .int w, .int f, .int w2])).length) Slot.unset).toArray = ls at hl ⊢
  have hl : lv_has ls 4 [(0, .ref o), (1, .int w), (2, .int f), (3, .int w2)] := hl
  refine lv_aload_n hx hb dX12_lay_0 rfl (lv_at hl 0 rfl) ?_
  refine va_get (D := D) (ci := 12) (v := .ref (a 23)) (C := RX12) (T := TX12) (N := 69) hx hb hts (fun _ h => List.mem_cons_of_mem _ (List.mem_append_right _ h)) hown hK hP 0 rfl rfl 23 (by decide) (hts (.fieldLink RX12 50 "TalePlayModel" "nForm" "[I") (by decide +kernel)) (fun _ h9 => h9) rfl dX12_lay_1 ?_
  refine lv_iload_n hx hb dX12_lay_4 rfl (lv_at hl 1 rfl) ?_
  refine lv_iload_n hx hb dX12_lay_5 rfl (lv_at hl 2 rfl) ?_
  refine va_iast hx hb hK hP hD hS 14 13 rfl rfl (vp_in_iff.mpr (by have h9 : w.toInt = w.toInt := rfl; omega)) dX12_lay_6 (fun H locs hP hD hS => ?_)
  have hI := mInv_c hI (k := 23) (j := (w : Int32).toNatClampNeg) (x := f) (show (f : Int32).toInt = -9 ∨ (0 ≤ (f : Int32).toInt ∧ (f : Int32).toInt ≤ 4) from by omega)
  have hfc := fr_c hfc (k := 23) (j := (w : Int32).toNatClampNeg) (x := f) (by decide)
  have hP : va_P D vwCl (mW o a t i q (updA c 23 (w : Int32).toNatClampNeg f) d) H := hP
  have hD : va_D A (mW o a t i q (updA c 23 (w : Int32).toNatClampNeg f) d) := hD
  refine lv_aload_n hx hb dX12_lay_7 rfl (lv_at hl 0 rfl) ?_
  refine va_get (D := D) (ci := 12) (v := .ref (a 24)) (C := RX12) (T := TX12) (N := 69) hx hb hts (fun _ h => List.mem_cons_of_mem _ (List.mem_append_right _ h)) hown hK hP 0 rfl rfl 24 (by decide) (hts (.fieldLink RX12 53 "TalePlayModel" "nAt" "[I") (by decide +kernel)) (fun _ h9 => h9) rfl dX12_lay_8 ?_
  refine lv_iload_n hx hb dX12_lay_11 rfl (lv_at hl 1 rfl) ?_
  refine lv_iload_n hx hb dX12_lay_12 rfl (lv_at hl 3 rfl) ?_
  refine va_iast hx hb hK hP hD hS 15 14 rfl rfl (vp_in_iff.mpr (by have h9 : w.toInt = w.toInt := rfl; omega)) dX12_lay_13 (fun H locs hP hD hS => ?_)
  have hI := mInv_c hI (k := 24) (j := (w : Int32).toNatClampNeg) (x := w2) (show (w2 : Int32).toInt = -9 ∨ (0 ≤ (w2 : Int32).toInt ∧ (w2 : Int32).toInt ≤ 29) from by omega)
  have hfc := fr_c hfc (k := 24) (j := (w : Int32).toNatClampNeg) (x := w2) (by decide)
  have hP : va_P D vwCl (mW o a t i q (updA (updA c 23 (w : Int32).toNatClampNeg f) 24 (w : Int32).toNatClampNeg w2) d) H := hP
  have hD : va_D A (mW o a t i q (updA (updA c 23 (w : Int32).toNatClampNeg f) 24 (w : Int32).toNatClampNeg w2) d) := hD
  exact rw_vret (i, q, (updA (updA c 23 (w : Int32).toNatClampNeg f) 24 (w : Int32).toNatClampNeg w2), d) hx hb hr hlocks hS (hK.sub (tys' := []) [] rfl) hP hD dX12_lay_14 ⟨trivial, hI, hfi, hfc⟩

