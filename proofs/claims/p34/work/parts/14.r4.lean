def wm_X12_fitsLeft : List Cond := .code yX12_fitsLeft cX12_fitsLeft 4 (some .boolean) :: ((([.methodLink RX12 194 yX12_isGoods, .instanceMethod yX12_isGoods, .selects RX12 yX12_isGoods yX12_isGoods, .initialized RX12, .code yX12_isGoods cX12_isGoods 2 (some .boolean), .methodLink RX12 188 yX12_isMovable, .instanceMethod yX12_isMovable, .selects RX12 yX12_isMovable yX12_isMovable, .code yX12_isMovable cX12_isMovable 2 (some .boolean), .methodLink RX12 184 yX12_isOf, .instanceMethod yX12_isOf, .selects RX12 yX12_isOf yX12_isOf, .code yX12_isOf cX12_isOf 4 (some .boolean), .fieldLink RX12 19 "TalePlayModel" "kindOf" "[I", .fieldLink RX12 13 "TalePlayModel" "parentOf" "[I", .methodLink RX12 199 yX12_mayHave] : List Cond) ++ ([.instanceMethod yX12_mayHave, .selects RX12 yX12_mayHave yX12_mayHave, .code yX12_mayHave cX12_mayHave 3 (some .boolean), .methodLink RX12 191 yX12_isShutter, .instanceMethod yX12_isShutter, .selects RX12 yX12_isShutter yX12_isShutter, .code yX12_isShutter cX12_isShutter 2 (some .boolean)] : List Cond)) ++ wsX120)
set_option maxRecDepth 20000 in
theorem gm_X12_fitsLeft_X12_isGoods : GoodIn wm_X12_fitsLeft (wsV RX12 194 RX12 yX12_isGoods wm_X12_isGoods) := goodIn_w (List.forall_mem_append.mpr ⟨List.forall_mem_cons.mpr ⟨List.mem_cons_of_mem _ (List.mem_append_left _ (List.mem_append_left _ (List.mem_of_getElem? (i := 0) rfl))), List.forall_mem_cons.mpr ⟨List.mem_cons_of_mem _ (List.mem_append_left _ (List.mem_append_left _ (List.mem_of_getElem? (i := 1) rfl))), List.forall_mem_cons.mpr ⟨List.mem_cons_of_mem _ (List.mem_append_left _ (List.mem_append_left _ (List.mem_of_getElem? (i := 2) rfl))), List.forall_mem_cons.mpr ⟨List.mem_cons_of_mem _ (List.mem_append_left _ (List.mem_append_left _ (List.mem_of_getElem? (i := 3) rfl))), (fun _ h => absurd h List.not_mem_nil)⟩⟩⟩⟩, List.forall_mem_cons.mpr ⟨List.mem_cons_of_mem _ (List.mem_append_left _ (List.mem_append_left _ (List.mem_of_getElem? (i := 4) rfl))), List.forall_mem_append.mpr ⟨List.forall_mem_cons.mpr ⟨List.mem_cons_of_mem _ (List.mem_append_left _ (List.mem_append_left _ (List.mem_of_getElem? (i := 5) rfl))), List.forall_mem_cons.mpr ⟨List.mem_cons_of_mem _ (List.mem_append_left _ (List.mem_append_left _ (List.mem_of_getElem? (i := 6) rfl))), List.forall_mem_cons.mpr ⟨List.mem_cons_of_mem _ (List.mem_append_left _ (List.mem_append_left _ (List.mem_of_getElem? (i := 7) rfl))), List.forall_mem_cons.mpr ⟨List.mem_cons_of_mem _ (List.mem_append_left _ (List.mem_append_left _ (List.mem_of_getElem? (i := 3) rfl))), List.forall_mem_cons.mpr ⟨List.mem_cons_of_mem _ (List.mem_append_left _ (List.mem_append_left _ (List.mem_of_getElem? (i := 8) rfl))), List.forall_mem_cons.mpr ⟨List.mem_cons_of_mem _ (List.mem_append_left _ (List.mem_append_left _ (List.mem_of_getElem? (i := 9) rfl))), List.forall_mem_cons.mpr ⟨List.mem_cons_of_mem _ (List.mem_append_left _ (List.mem_append_left _ (List.mem_of_getElem? (i := 10) rfl))), List.forall_mem_cons.mpr ⟨List.mem_cons_of_mem _ (List.mem_append_left _ (List.mem_append_left _ (List.mem_of_getElem? (i := 11) rfl))), List.forall_mem_cons.mpr ⟨List.mem_cons_of_mem _ (List.mem_append_left _ (List.mem_append_left _ (List.mem_of_getElem? (i := 12) rfl))), List.forall_mem_cons.mpr ⟨List.mem_cons_of_mem _ (List.mem_append_left _ (List.mem_append_left _ (List.mem_of_getElem? (i := 13) rfl))), List.forall_mem_cons.mpr ⟨List.mem_cons_of_mem _ (List.mem_append_left _ (List.mem_append_left _ (List.mem_of_getElem? (i := 14) rfl))), (fun _ h => absurd h List.not_mem_nil)⟩⟩⟩⟩⟩⟩⟩⟩⟩⟩⟩, (fun _ h => List.mem_cons_of_mem _ (List.mem_append_right _ h))⟩⟩⟩) (by decide +kernel)
set_option maxRecDepth 20000 in
theorem gm_X12_fitsLeft_X12_isMovable : GoodIn wm_X12_fitsLeft (wsV RX12 188 RX12 yX12_isMovable wm_X12_isMovable) := goodIn_w (List.forall_mem_append.mpr ⟨List.forall_mem_cons.mpr ⟨List.mem_cons_of_mem _ (List.mem_append_left _ (List.mem_append_left _ (List.mem_of_getElem? (i := 5) rfl))), List.forall_mem_cons.mpr ⟨List.mem_cons_of_mem _ (List.mem_append_left _ (List.mem_append_left _ (List.mem_of_getElem? (i := 6) rfl))), List.forall_mem_cons.mpr ⟨List.mem_cons_of_mem _ (List.mem_append_left _ (List.mem_append_left _ (List.mem_of_getElem? (i := 7) rfl))), List.forall_mem_cons.mpr ⟨List.mem_cons_of_mem _ (List.mem_append_left _ (List.mem_append_left _ (List.mem_of_getElem? (i := 3) rfl))), (fun _ h => absurd h List.not_mem_nil)⟩⟩⟩⟩, List.forall_mem_cons.mpr ⟨List.mem_cons_of_mem _ (List.mem_append_left _ (List.mem_append_left _ (List.mem_of_getElem? (i := 8) rfl))), List.forall_mem_append.mpr ⟨List.forall_mem_cons.mpr ⟨List.mem_cons_of_mem _ (List.mem_append_left _ (List.mem_append_left _ (List.mem_of_getElem? (i := 9) rfl))), List.forall_mem_cons.mpr ⟨List.mem_cons_of_mem _ (List.mem_append_left _ (List.mem_append_left _ (List.mem_of_getElem? (i := 10) rfl))), List.forall_mem_cons.mpr ⟨List.mem_cons_of_mem _ (List.mem_append_left _ (List.mem_append_left _ (List.mem_of_getElem? (i := 11) rfl))), List.forall_mem_cons.mpr ⟨List.mem_cons_of_mem _ (List.mem_append_left _ (List.mem_append_left _ (List.mem_of_getElem? (i := 3) rfl))), List.forall_mem_cons.mpr ⟨List.mem_cons_of_mem _ (List.mem_append_left _ (List.mem_append_left _ (List.mem_of_getElem? (i := 12) rfl))), List.forall_mem_cons.mpr ⟨List.mem_cons_of_mem _ (List.mem_append_left _ (List.mem_append_left _ (List.mem_of_getElem? (i := 13) rfl))), List.forall_mem_cons.mpr ⟨List.mem_cons_of_mem _ (List.mem_append_left _ (List.mem_append_left _ (List.mem_of_getElem? (i := 14) rfl))), (fun _ h => absurd h List.not_mem_nil)⟩⟩⟩⟩⟩⟩⟩, (fun _ h => List.mem_cons_of_mem _ (List.mem_append_right _ h))⟩⟩⟩) (by decide +kernel)
set_option maxRecDepth 20000 in
theorem gm_X12_fitsLeft_X12_isOf : GoodIn wm_X12_fitsLeft (wsV RX12 184 RX12 yX12_isOf wm_X12_isOf) := goodIn_w (List.forall_mem_append.mpr ⟨List.forall_mem_cons.mpr ⟨List.mem_cons_of_mem _ (List.mem_append_left _ (List.mem_append_left _ (List.mem_of_getElem? (i := 9) rfl))), List.forall_mem_cons.mpr ⟨List.mem_cons_of_mem _ (List.mem_append_left _ (List.mem_append_left _ (List.mem_of_getElem? (i := 10) rfl))), List.forall_mem_cons.mpr ⟨List.mem_cons_of_mem _ (List.mem_append_left _ (List.mem_append_left _ (List.mem_of_getElem? (i := 11) rfl))), List.forall_mem_cons.mpr ⟨List.mem_cons_of_mem _ (List.mem_append_left _ (List.mem_append_left _ (List.mem_of_getElem? (i := 3) rfl))), (fun _ h => absurd h List.not_mem_nil)⟩⟩⟩⟩, List.forall_mem_cons.mpr ⟨List.mem_cons_of_mem _ (List.mem_append_left _ (List.mem_append_left _ (List.mem_of_getElem? (i := 12) rfl))), List.forall_mem_append.mpr ⟨List.forall_mem_cons.mpr ⟨List.mem_cons_of_mem _ (List.mem_append_left _ (List.mem_append_left _ (List.mem_of_getElem? (i := 13) rfl))), List.forall_mem_cons.mpr ⟨List.mem_cons_of_mem _ (List.mem_append_left _ (List.mem_append_left _ (List.mem_of_getElem? (i := 14) rfl))), (fun _ h => absurd h List.not_mem_nil)⟩⟩, (fun _ h => List.mem_cons_of_mem _ (List.mem_append_right _ h))⟩⟩⟩) (by decide +kernel)
set_option maxRecDepth 20000 in
theorem gm_X12_fitsLeft_X12_mayHave : GoodIn wm_X12_fitsLeft (wsV RX12 199 RX12 yX12_mayHave wm_X12_mayHave) := goodIn_w (List.forall_mem_append.mpr ⟨List.forall_mem_cons.mpr ⟨List.mem_cons_of_mem _ (List.mem_append_left _ (List.mem_append_left _ (List.mem_of_getElem? (i := 15) rfl))), List.forall_mem_cons.mpr ⟨List.mem_cons_of_mem _ (List.mem_append_left _ (List.mem_append_right _ (List.mem_of_getElem? (i := 0) rfl))), List.forall_mem_cons.mpr ⟨List.mem_cons_of_mem _ (List.mem_append_left _ (List.mem_append_right _ (List.mem_of_getElem? (i := 1) rfl))), List.forall_mem_cons.mpr ⟨List.mem_cons_of_mem _ (List.mem_append_left _ (List.mem_append_left _ (List.mem_of_getElem? (i := 3) rfl))), (fun _ h => absurd h List.not_mem_nil)⟩⟩⟩⟩, List.forall_mem_cons.mpr ⟨List.mem_cons_of_mem _ (List.mem_append_left _ (List.mem_append_right _ (List.mem_of_getElem? (i := 2) rfl))), List.forall_mem_append.mpr ⟨List.forall_mem_append.mpr ⟨List.forall_mem_cons.mpr ⟨List.mem_cons_of_mem _ (List.mem_append_left _ (List.mem_append_left _ (List.mem_of_getElem? (i := 9) rfl))), List.forall_mem_cons.mpr ⟨List.mem_cons_of_mem _ (List.mem_append_left _ (List.mem_append_left _ (List.mem_of_getElem? (i := 10) rfl))), List.forall_mem_cons.mpr ⟨List.mem_cons_of_mem _ (List.mem_append_left _ (List.mem_append_left _ (List.mem_of_getElem? (i := 11) rfl))), List.forall_mem_cons.mpr ⟨List.mem_cons_of_mem _ (List.mem_append_left _ (List.mem_append_left _ (List.mem_of_getElem? (i := 3) rfl))), List.forall_mem_cons.mpr ⟨List.mem_cons_of_mem _ (List.mem_append_left _ (List.mem_append_left _ (List.mem_of_getElem? (i := 12) rfl))), List.forall_mem_cons.mpr ⟨List.mem_cons_of_mem _ (List.mem_append_left _ (List.mem_append_left _ (List.mem_of_getElem? (i := 13) rfl))), List.forall_mem_cons.mpr ⟨List.mem_cons_of_mem _ (List.mem_append_left _ (List.mem_append_left _ (List.mem_of_getElem? (i := 14) rfl))), List.forall_mem_cons.mpr ⟨List.mem_cons_of_mem _ (List.mem_append_left _ (List.mem_append_right _ (List.mem_of_getElem? (i := 3) rfl))), List.forall_mem_cons.mpr ⟨List.mem_cons_of_mem _ (List.mem_append_left _ (List.mem_append_right _ (List.mem_of_getElem? (i := 4) rfl))), List.forall_mem_cons.mpr ⟨List.mem_cons_of_mem _ (List.mem_append_left _ (List.mem_append_right _ (List.mem_of_getElem? (i := 5) rfl))), List.forall_mem_cons.mpr ⟨List.mem_cons_of_mem _ (List.mem_append_left _ (List.mem_append_right _ (List.mem_of_getElem? (i := 6) rfl))), List.forall_mem_cons.mpr ⟨List.mem_cons_of_mem _ (List.mem_append_left _ (List.mem_append_left _ (List.mem_of_getElem? (i := 5) rfl))), List.forall_mem_cons.mpr ⟨List.mem_cons_of_mem _ (List.mem_append_left _ (List.mem_append_left _ (List.mem_of_getElem? (i := 6) rfl))), List.forall_mem_cons.mpr ⟨List.mem_cons_of_mem _ (List.mem_append_left _ (List.mem_append_left _ (List.mem_of_getElem? (i := 7) rfl))), List.forall_mem_cons.mpr ⟨List.mem_cons_of_mem _ (List.mem_append_left _ (List.mem_append_left _ (List.mem_of_getElem? (i := 8) rfl))), List.forall_mem_cons.mpr ⟨List.mem_cons_of_mem _ (List.mem_append_left _ (List.mem_append_left _ (List.mem_of_getElem? (i := 0) rfl))), (fun _ h => absurd h List.not_mem_nil)⟩⟩⟩⟩⟩⟩⟩⟩⟩⟩⟩⟩⟩⟩⟩⟩, List.forall_mem_cons.mpr ⟨List.mem_cons_of_mem _ (List.mem_append_left _ (List.mem_append_left _ (List.mem_of_getElem? (i := 1) rfl))), List.forall_mem_cons.mpr ⟨List.mem_cons_of_mem _ (List.mem_append_left _ (List.mem_append_left _ (List.mem_of_getElem? (i := 2) rfl))), List.forall_mem_cons.mpr ⟨List.mem_cons_of_mem _ (List.mem_append_left _ (List.mem_append_left _ (List.mem_of_getElem? (i := 4) rfl))), (fun _ h => absurd h List.not_mem_nil)⟩⟩⟩⟩, (fun _ h => List.mem_cons_of_mem _ (List.mem_append_right _ h))⟩⟩⟩) (by decide +kernel)
set_option maxHeartbeats 4000000 in
set_option maxRecDepth 100000 in
theorem s_X12_fitsLeft (l : Launch) (D : va_G) (sz : Nat) (o : Nat) (a : Nat → Nat) (t : Nat → ClassId) (i : Nat → Int32) (q : Int64) (c : Nat → Nat → Int32) (d : Nat → Nat → Int64) (f : Int32) (w1 : Int32) (w2 : Int32) (hI : mInv i c) (hw1 : 0 ≤ w1.toInt ∧ w1.toInt ≤ 29) : Met l yX12_fitsLeft wm_X12_fitsLeft ({ frames := 4, cells := 0, slots := 0, locals := 87 }) (va_Pc [.ref o, .int f, .int w1, .int w2] (pA D sz (mW o a t i q c d) (mT t))) (va_Qi (fun (r : Int32) (_ : Unit) => ((0 ≤ r.toInt ∧ r.toInt ≤ 1) ∧ (Im (r.toInt = 1) (Im (f.toInt < 5 ∨ f.toInt = 7) (Kd (c 3) (c 6) w1.toInt 1) ∧ Im (f.toInt = 5) (Kd (c 3) (c 6) w1.toInt 0))))) oA (ro sz)) 0 0 (ro sz) := by
  refine Met.ofW (cc := cX12_fitsLeft) (maxL := 4) (ret := (some .boolean)) (by decide +kernel) rfl ?_
  intro p e s m args below meth cd s₁ B hml hv
  obtain ⟨rfl, hsz, hP, hK⟩ := hv
  have hx := B.exec
  have hb := B.bytes
  have hr := B.returns
  have hts := atoms_spec (ws := wm_X12_fitsLeft) B.pre
  have hown : s.vm.findClass RX12 = some m.cls := findClass_of_methodNamed B.named
  have hlocks := B.notSynchronized
  subst hsz
  have hA : ∀ q : Nat, s.heap.size ≤ q → ro s.heap.size q := fun _ h => h
  have hS : va_S (ro s.heap.size) s.heap s.heap [] := va_S.rf
  have hl := lv_entry ([.ref o, .int f, .int w1, .int w2]) (n := 4) (Nat.le_of_ble_eq_true rfl)
  rw [lg_entry_eq]
  generalize (lg_sl ([.ref o, .int f, .int w1, .int w2]) ++ List.replicate (4 - (lg_sl ([.ref o, .int f, .int w1, .int w2])).length) Slot.unset).toArray = ls at hl ⊢
  have hl : lv_has ls 4 [(0, .ref o), (1, .int f), (2, .int w1), (3, .int w2)] := hl
  refine lv_iload_n hx hb dX12_fitsLeft_0 rfl (lv_at hl 1 rfl) ?_
  rcases (show (f.toInt < 0 ∨ 6 < f.toInt) ∨ f.toInt = 0 ∨ f.toInt = 1 ∨ f.toInt = 2 ∨ f.toInt = 3 ∨ f.toInt = 4 ∨ f.toInt = 5 ∨ f.toInt = 6 by omega) with f1 | f1 | f1 | f1 | f1 | f1 | f1 | f1
  · refine lv_tableOut (tgt := 64) hx hb dX12_fitsLeft_1 f1 (by decide +kernel) ?_
    refine lv_aload_n hx hb dX12_fitsLeft_64 rfl (lv_at hl 0 rfl) ?_
    refine lv_iload_n hx hb dX12_fitsLeft_65 rfl (lv_at hl 2 rfl) ?_
    refine ro_calli (va_runV (As := [.int w1]) (rest := []) ⟨hx, hb, hml, hown, hts⟩ (s_X12_isGoods l D s.heap.size o a t i q c d w1 hI (show 0 ≤ w1.toInt ∧ w1.toInt ≤ 29 from by omega)) (cwV 1 hts gm_X12_fitsLeft_X12_isGoods rfl rfl rfl (by decide +kernel) ⟨Nat.le_of_ble_eq_true rfl, Nat.le_of_ble_eq_true rfl⟩) (pA_V hK hP (ci := 12) (q0 := 0) rfl rfl) rfl rfl hl.1 rfl (lv_room (Nat.le_of_ble_eq_true rfl)) dX12_fitsLeft_66 ⟨Nat.le_of_ble_eq_true rfl, Nat.le_of_ble_eq_true rfl⟩) hS hA hP (fun r2 u2 H locs hw2 hP hS => ?_)
    have hw2 : ((0 ≤ r2.toInt ∧ r2.toInt ≤ 1) ∧ (Im (r2.toInt = 1) (Kd (c 3) (c 6) w1.toInt 1))) := hw2
    obtain ⟨hw2, hr2_0⟩ := hw2
    have hr2_0 : Im (r2.toInt = 1) (Kd (c 3) (c 6) w1.toInt 1) := hr2_0
    exact ro_zret hx hb hr hlocks hS (nb_n (show 0 ≤ r2.toInt ∧ r2.toInt ≤ 1 from by omega)) dX12_fitsLeft_69 ⟨(show 0 ≤ r2.toInt ∧ r2.toInt ≤ 1 from by omega), (show Im (r2.toInt = 1) (Im (f.toInt < 5 ∨ f.toInt = 7) (Kd (c 3) (c 6) w1.toInt 1) ∧ Im (f.toInt = 5) (Kd (c 3) (c 6) w1.toInt 0)) from fun h9 => ⟨fun h8 => by first | (exfalso; omega) | exact hr2_0 h9, fun h8 => by first | (exfalso; omega) | exact sm_1t hr2_0 h9⟩)⟩
  · refine lv_tableIn (off := 43) (tgt := 44) hx hb dX12_fitsLeft_1 (by omega) (by omega) (by rw [f1]; rfl) (by decide +kernel) ?_
    refine lv_aload_n hx hb dX12_fitsLeft_44 rfl (lv_at hl 0 rfl) ?_
    refine lv_iload_n hx hb dX12_fitsLeft_45 rfl (lv_at hl 2 rfl) ?_
    refine ro_calli (va_runV (As := [.int w1]) (rest := []) ⟨hx, hb, hml, hown, hts⟩ (s_X12_isMovable l D s.heap.size o a t i q c d w1 hI (show 0 ≤ w1.toInt ∧ w1.toInt ≤ 29 from by omega)) (cwV 1 hts gm_X12_fitsLeft_X12_isMovable rfl rfl rfl (by decide +kernel) ⟨Nat.le_of_ble_eq_true rfl, Nat.le_of_ble_eq_true rfl⟩) (pA_V hK hP (ci := 12) (q0 := 0) rfl rfl) rfl rfl hl.1 rfl (lv_room (Nat.le_of_ble_eq_true rfl)) dX12_fitsLeft_46 ⟨Nat.le_of_ble_eq_true rfl, Nat.le_of_ble_eq_true rfl⟩) hS hA hP (fun r3 u3 H locs hw3 hP hS => ?_)
    have hw3 : ((0 ≤ r3.toInt ∧ r3.toInt ≤ 1) ∧ (Im (r3.toInt = 1) (Kd (c 3) (c 6) w1.toInt 1))) := hw3
    obtain ⟨hw3, hr3_0⟩ := hw3
    have hr3_0 : Im (r3.toInt = 1) (Kd (c 3) (c 6) w1.toInt 1) := hr3_0
    exact ro_zret hx hb hr hlocks hS (nb_n (show 0 ≤ r3.toInt ∧ r3.toInt ≤ 1 from by omega)) dX12_fitsLeft_49 ⟨(show 0 ≤ r3.toInt ∧ r3.toInt ≤ 1 from by omega), (show Im (r3.toInt = 1) (Im (f.toInt < 5 ∨ f.toInt = 7) (Kd (c 3) (c 6) w1.toInt 1) ∧ Im (f.toInt = 5) (Kd (c 3) (c 6) w1.toInt 0)) from fun h9 => ⟨fun h8 => by first | (exfalso; omega) | exact hr3_0 h9, fun h8 => by first | (exfalso; omega) | exact sm_1t hr3_0 h9⟩)⟩
  · refine lv_tableIn (off := 43) (tgt := 44) hx hb dX12_fitsLeft_1 (by omega) (by omega) (by rw [f1]; rfl) (by decide +kernel) ?_
    refine lv_aload_n hx hb dX12_fitsLeft_44 rfl (lv_at hl 0 rfl) ?_
    refine lv_iload_n hx hb dX12_fitsLeft_45 rfl (lv_at hl 2 rfl) ?_
    refine ro_calli (va_runV (As := [.int w1]) (rest := []) ⟨hx, hb, hml, hown, hts⟩ (s_X12_isMovable l D s.heap.size o a t i q c d w1 hI (show 0 ≤ w1.toInt ∧ w1.toInt ≤ 29 from by omega)) (cwV 1 hts gm_X12_fitsLeft_X12_isMovable rfl rfl rfl (by decide +kernel) ⟨Nat.le_of_ble_eq_true rfl, Nat.le_of_ble_eq_true rfl⟩) (pA_V hK hP (ci := 12) (q0 := 0) rfl rfl) rfl rfl hl.1 rfl (lv_room (Nat.le_of_ble_eq_true rfl)) dX12_fitsLeft_46 ⟨Nat.le_of_ble_eq_true rfl, Nat.le_of_ble_eq_true rfl⟩) hS hA hP (fun r4 u4 H locs hw4 hP hS => ?_)
    have hw4 : ((0 ≤ r4.toInt ∧ r4.toInt ≤ 1) ∧ (Im (r4.toInt = 1) (Kd (c 3) (c 6) w1.toInt 1))) := hw4
    obtain ⟨hw4, hr4_0⟩ := hw4
    have hr4_0 : Im (r4.toInt = 1) (Kd (c 3) (c 6) w1.toInt 1) := hr4_0
    exact ro_zret hx hb hr hlocks hS (nb_n (show 0 ≤ r4.toInt ∧ r4.toInt ≤ 1 from by omega)) dX12_fitsLeft_49 ⟨(show 0 ≤ r4.toInt ∧ r4.toInt ≤ 1 from by omega), (show Im (r4.toInt = 1) (Im (f.toInt < 5 ∨ f.toInt = 7) (Kd (c 3) (c 6) w1.toInt 1) ∧ Im (f.toInt = 5) (Kd (c 3) (c 6) w1.toInt 0)) from fun h9 => ⟨fun h8 => by first | (exfalso; omega) | exact hr4_0 h9, fun h8 => by first | (exfalso; omega) | exact sm_1t hr4_0 h9⟩)⟩
  · refine lv_tableIn (off := 63) (tgt := 64) hx hb dX12_fitsLeft_1 (by omega) (by omega) (by rw [f1]; rfl) (by decide +kernel) ?_
    refine lv_aload_n hx hb dX12_fitsLeft_64 rfl (lv_at hl 0 rfl) ?_
    refine lv_iload_n hx hb dX12_fitsLeft_65 rfl (lv_at hl 2 rfl) ?_
    refine ro_calli (va_runV (As := [.int w1]) (rest := []) ⟨hx, hb, hml, hown, hts⟩ (s_X12_isGoods l D s.heap.size o a t i q c d w1 hI (show 0 ≤ w1.toInt ∧ w1.toInt ≤ 29 from by omega)) (cwV 1 hts gm_X12_fitsLeft_X12_isGoods rfl rfl rfl (by decide +kernel) ⟨Nat.le_of_ble_eq_true rfl, Nat.le_of_ble_eq_true rfl⟩) (pA_V hK hP (ci := 12) (q0 := 0) rfl rfl) rfl rfl hl.1 rfl (lv_room (Nat.le_of_ble_eq_true rfl)) dX12_fitsLeft_66 ⟨Nat.le_of_ble_eq_true rfl, Nat.le_of_ble_eq_true rfl⟩) hS hA hP (fun r5 u5 H locs hw5 hP hS => ?_)
    have hw5 : ((0 ≤ r5.toInt ∧ r5.toInt ≤ 1) ∧ (Im (r5.toInt = 1) (Kd (c 3) (c 6) w1.toInt 1))) := hw5
    obtain ⟨hw5, hr5_0⟩ := hw5
    have hr5_0 : Im (r5.toInt = 1) (Kd (c 3) (c 6) w1.toInt 1) := hr5_0
    exact ro_zret hx hb hr hlocks hS (nb_n (show 0 ≤ r5.toInt ∧ r5.toInt ≤ 1 from by omega)) dX12_fitsLeft_69 ⟨(show 0 ≤ r5.toInt ∧ r5.toInt ≤ 1 from by omega), (show Im (r5.toInt = 1) (Im (f.toInt < 5 ∨ f.toInt = 7) (Kd (c 3) (c 6) w1.toInt 1) ∧ Im (f.toInt = 5) (Kd (c 3) (c 6) w1.toInt 0)) from fun h9 => ⟨fun h8 => by first | (exfalso; omega) | exact hr5_0 h9, fun h8 => by first | (exfalso; omega) | exact sm_1t hr5_0 h9⟩)⟩
  · refine lv_tableIn (off := 63) (tgt := 64) hx hb dX12_fitsLeft_1 (by omega) (by omega) (by rw [f1]; rfl) (by decide +kernel) ?_
    refine lv_aload_n hx hb dX12_fitsLeft_64 rfl (lv_at hl 0 rfl) ?_
    refine lv_iload_n hx hb dX12_fitsLeft_65 rfl (lv_at hl 2 rfl) ?_
    refine ro_calli (va_runV (As := [.int w1]) (rest := []) ⟨hx, hb, hml, hown, hts⟩ (s_X12_isGoods l D s.heap.size o a t i q c d w1 hI (show 0 ≤ w1.toInt ∧ w1.toInt ≤ 29 from by omega)) (cwV 1 hts gm_X12_fitsLeft_X12_isGoods rfl rfl rfl (by decide +kernel) ⟨Nat.le_of_ble_eq_true rfl, Nat.le_of_ble_eq_true rfl⟩) (pA_V hK hP (ci := 12) (q0 := 0) rfl rfl) rfl rfl hl.1 rfl (lv_room (Nat.le_of_ble_eq_true rfl)) dX12_fitsLeft_66 ⟨Nat.le_of_ble_eq_true rfl, Nat.le_of_ble_eq_true rfl⟩) hS hA hP (fun r6 u6 H locs hw6 hP hS => ?_)
    have hw6 : ((0 ≤ r6.toInt ∧ r6.toInt ≤ 1) ∧ (Im (r6.toInt = 1) (Kd (c 3) (c 6) w1.toInt 1))) := hw6
    obtain ⟨hw6, hr6_0⟩ := hw6
    have hr6_0 : Im (r6.toInt = 1) (Kd (c 3) (c 6) w1.toInt 1) := hr6_0
    exact ro_zret hx hb hr hlocks hS (nb_n (show 0 ≤ r6.toInt ∧ r6.toInt ≤ 1 from by omega)) dX12_fitsLeft_69 ⟨(show 0 ≤ r6.toInt ∧ r6.toInt ≤ 1 from by omega), (show Im (r6.toInt = 1) (Im (f.toInt < 5 ∨ f.toInt = 7) (Kd (c 3) (c 6) w1.toInt 1) ∧ Im (f.toInt = 5) (Kd (c 3) (c 6) w1.toInt 0)) from fun h9 => ⟨fun h8 => by first | (exfalso; omega) | exact hr6_0 h9, fun h8 => by first | (exfalso; omega) | exact sm_1t hr6_0 h9⟩)⟩
  · refine lv_tableIn (off := 63) (tgt := 64) hx hb dX12_fitsLeft_1 (by omega) (by omega) (by rw [f1]; rfl) (by decide +kernel) ?_
    refine lv_aload_n hx hb dX12_fitsLeft_64 rfl (lv_at hl 0 rfl) ?_
    refine lv_iload_n hx hb dX12_fitsLeft_65 rfl (lv_at hl 2 rfl) ?_
    refine ro_calli (va_runV (As := [.int w1]) (rest := []) ⟨hx, hb, hml, hown, hts⟩ (s_X12_isGoods l D s.heap.size o a t i q c d w1 hI (show 0 ≤ w1.toInt ∧ w1.toInt ≤ 29 from by omega)) (cwV 1 hts gm_X12_fitsLeft_X12_isGoods rfl rfl rfl (by decide +kernel) ⟨Nat.le_of_ble_eq_true rfl, Nat.le_of_ble_eq_true rfl⟩) (pA_V hK hP (ci := 12) (q0 := 0) rfl rfl) rfl rfl hl.1 rfl (lv_room (Nat.le_of_ble_eq_true rfl)) dX12_fitsLeft_66 ⟨Nat.le_of_ble_eq_true rfl, Nat.le_of_ble_eq_true rfl⟩) hS hA hP (fun r7 u7 H locs hw7 hP hS => ?_)
    have hw7 : ((0 ≤ r7.toInt ∧ r7.toInt ≤ 1) ∧ (Im (r7.toInt = 1) (Kd (c 3) (c 6) w1.toInt 1))) := hw7
    obtain ⟨hw7, hr7_0⟩ := hw7
    have hr7_0 : Im (r7.toInt = 1) (Kd (c 3) (c 6) w1.toInt 1) := hr7_0
    exact ro_zret hx hb hr hlocks hS (nb_n (show 0 ≤ r7.toInt ∧ r7.toInt ≤ 1 from by omega)) dX12_fitsLeft_69 ⟨(show 0 ≤ r7.toInt ∧ r7.toInt ≤ 1 from by omega), (show Im (r7.toInt = 1) (Im (f.toInt < 5 ∨ f.toInt = 7) (Kd (c 3) (c 6) w1.toInt 1) ∧ Im (f.toInt = 5) (Kd (c 3) (c 6) w1.toInt 0)) from fun h9 => ⟨fun h8 => by first | (exfalso; omega) | exact hr7_0 h9, fun h8 => by first | (exfalso; omega) | exact sm_1t hr7_0 h9⟩)⟩
  · refine lv_tableIn (off := 49) (tgt := 50) hx hb dX12_fitsLeft_1 (by omega) (by omega) (by rw [f1]; rfl) (by decide +kernel) ?_
    refine lv_aload_n hx hb dX12_fitsLeft_50 rfl (lv_at hl 0 rfl) ?_
    refine lv_iload_n hx hb dX12_fitsLeft_51 rfl (lv_at hl 2 rfl) ?_
    refine lv_iconst (v := 0) hx hb dX12_fitsLeft_52 (by decide +kernel) ?_
    refine ro_calli (va_runV (As := [.int w1, .int 0]) (rest := []) ⟨hx, hb, hml, hown, hts⟩ (s_X12_isOf l D s.heap.size o a t i q c d w1 0 hI (show 0 ≤ w1.toInt ∧ w1.toInt ≤ 29 from by have h91 : (0 : Int32).toInt = 0 := (by decide +kernel); omega) (show 0 ≤ 0 from by decide +kernel)) (cwV 2 hts gm_X12_fitsLeft_X12_isOf rfl rfl rfl (by decide +kernel) ⟨Nat.le_of_ble_eq_true rfl, Nat.le_of_ble_eq_true rfl⟩) (pA_V hK hP (ci := 12) (q0 := 0) rfl rfl) rfl rfl hl.1 rfl (lv_room (Nat.le_of_ble_eq_true rfl)) dX12_fitsLeft_53 ⟨Nat.le_of_ble_eq_true rfl, Nat.le_of_ble_eq_true rfl⟩) hS hA hP (fun r8 u8 H locs hw8 hP hS => ?_)
    have hw8 : ((0 ≤ r8.toInt ∧ r8.toInt ≤ 1) ∧ (Sm r8 (Kd (c 3) (c 6) w1.toInt 0))) := hw8
    obtain ⟨hw8, hr8_0⟩ := hw8
    have hr8_0 : Sm r8 (Kd (c 3) (c 6) w1.toInt 0) := hr8_0
    exact ro_zret hx hb hr hlocks hS (nb_n (show 0 ≤ r8.toInt ∧ r8.toInt ≤ 1 from by omega)) dX12_fitsLeft_56 ⟨(show 0 ≤ r8.toInt ∧ r8.toInt ≤ 1 from by omega), (show Im (r8.toInt = 1) (Im (f.toInt < 5 ∨ f.toInt = 7) (Kd (c 3) (c 6) w1.toInt 1) ∧ Im (f.toInt = 5) (Kd (c 3) (c 6) w1.toInt 0)) from fun h9 => ⟨fun h8 => by first | (exfalso; omega) | exact hr8_0 h9, fun h8 => by first | (exfalso; omega) | exact sm_1t hr8_0 h9⟩)⟩
  · refine lv_tableIn (off := 56) (tgt := 57) hx hb dX12_fitsLeft_1 (by omega) (by omega) (by rw [f1]; rfl) (by decide +kernel) ?_
    refine lv_aload_n hx hb dX12_fitsLeft_57 rfl (lv_at hl 0 rfl) ?_
    refine lv_iload_n hx hb dX12_fitsLeft_58 rfl (lv_at hl 2 rfl) ?_
    refine lv_iload_n hx hb dX12_fitsLeft_59 rfl (lv_at hl 3 rfl) ?_
    refine ro_calli (va_runV (As := [.int w1, .int w2]) (rest := []) ⟨hx, hb, hml, hown, hts⟩ (s_X12_mayHave l D s.heap.size o a t i q c d w1 w2 hI (show 0 ≤ w1.toInt ∧ w1.toInt ≤ 29 from by omega)) (cwV 2 hts gm_X12_fitsLeft_X12_mayHave rfl rfl rfl (by decide +kernel) ⟨Nat.le_of_ble_eq_true rfl, Nat.le_of_ble_eq_true rfl⟩) (pA_V hK hP (ci := 12) (q0 := 0) rfl rfl) rfl rfl hl.1 rfl (lv_room (Nat.le_of_ble_eq_true rfl)) dX12_fitsLeft_60 ⟨Nat.le_of_ble_eq_true rfl, Nat.le_of_ble_eq_true rfl⟩) hS hA hP (fun r9 u9 H locs hw9 hP hS => ?_)
    have hw9 : (0 ≤ r9.toInt ∧ r9.toInt ≤ 1) := hw9
    exact ro_zret hx hb hr hlocks hS (nb_n (show 0 ≤ r9.toInt ∧ r9.toInt ≤ 1 from by omega)) dX12_fitsLeft_63 ⟨(show 0 ≤ r9.toInt ∧ r9.toInt ≤ 1 from by omega), (show Im (r9.toInt = 1) (Im (f.toInt < 5 ∨ f.toInt = 7) (Kd (c 3) (c 6) w1.toInt 1) ∧ Im (f.toInt = 5) (Kd (c 3) (c 6) w1.toInt 0)) from fun h9 => ⟨fun h8 => by first | (exfalso; omega) | exact hr9_0 h9, fun h8 => by first | (exfalso; omega) | exact sm_1t hr9_0 h9⟩)⟩

def wm_X12_fitsRight : List Cond := .code yX12_fitsRight cX12_fitsRight 3 (some .boolean) :: (([.methodLink RX12 184 yX12_isOf, .instanceMethod yX12_isOf, .selects RX12 yX12_isOf yX12_isOf, .initialized RX12, .code yX12_isOf cX12_isOf 4 (some .boolean), .fieldLink RX12 19 "TalePlayModel" "kindOf" "[I", .fieldLink RX12 13 "TalePlayModel" "parentOf" "[I", .methodLink RX12 191 yX12_isShutter, .instanceMethod yX12_isShutter, .selects RX12 yX12_isShutter yX12_isShutter, .code yX12_isShutter cX12_isShutter 2 (some .boolean)] : List Cond) ++ wsX120)
set_option maxRecDepth 20000 in
theorem gm_X12_fitsRight_X12_isOf : GoodIn wm_X12_fitsRight (wsV RX12 184 RX12 yX12_isOf wm_X12_isOf) := goodIn_w (List.forall_mem_append.mpr ⟨List.forall_mem_cons.mpr ⟨List.mem_cons_of_mem _ (List.mem_append_left _ (List.mem_of_getElem? (i := 0) rfl)), List.forall_mem_cons.mpr ⟨List.mem_cons_of_mem _ (List.mem_append_left _ (List.mem_of_getElem? (i := 1) rfl)), List.forall_mem_cons.mpr ⟨List.mem_cons_of_mem _ (List.mem_append_left _ (List.mem_of_getElem? (i := 2) rfl)), List.forall_mem_cons.mpr ⟨List.mem_cons_of_mem _ (List.mem_append_left _ (List.mem_of_getElem? (i := 3) rfl)), (fun _ h => absurd h List.not_mem_nil)⟩⟩⟩⟩, List.forall_mem_cons.mpr ⟨List.mem_cons_of_mem _ (List.mem_append_left _ (List.mem_of_getElem? (i := 4) rfl)), List.forall_mem_append.mpr ⟨List.forall_mem_cons.mpr ⟨List.mem_cons_of_mem _ (List.mem_append_left _ (List.mem_of_getElem? (i := 5) rfl)), List.forall_mem_cons.mpr ⟨List.mem_cons_of_mem _ (List.mem_append_left _ (List.mem_of_getElem? (i := 6) rfl)), (fun _ h => absurd h List.not_mem_nil)⟩⟩, (fun _ h => List.mem_cons_of_mem _ (List.mem_append_right _ h))⟩⟩⟩) (by decide +kernel)
set_option maxRecDepth 20000 in
theorem gm_X12_fitsRight_X12_isShutter : GoodIn wm_X12_fitsRight (wsV RX12 191 RX12 yX12_isShutter wm_X12_isShutter) := goodIn_w (List.forall_mem_append.mpr ⟨List.forall_mem_cons.mpr ⟨List.mem_cons_of_mem _ (List.mem_append_left _ (List.mem_of_getElem? (i := 7) rfl)), List.forall_mem_cons.mpr ⟨List.mem_cons_of_mem _ (List.mem_append_left _ (List.mem_of_getElem? (i := 8) rfl)), List.forall_mem_cons.mpr ⟨List.mem_cons_of_mem _ (List.mem_append_left _ (List.mem_of_getElem? (i := 9) rfl)), List.forall_mem_cons.mpr ⟨List.mem_cons_of_mem _ (List.mem_append_left _ (List.mem_of_getElem? (i := 3) rfl)), (fun _ h => absurd h List.not_mem_nil)⟩⟩⟩⟩, List.forall_mem_cons.mpr ⟨List.mem_cons_of_mem _ (List.mem_append_left _ (List.mem_of_getElem? (i := 10) rfl)), List.forall_mem_append.mpr ⟨List.forall_mem_cons.mpr ⟨List.mem_cons_of_mem _ (List.mem_append_left _ (List.mem_of_getElem? (i := 0) rfl)), List.forall_mem_cons.mpr ⟨List.mem_cons_of_mem _ (List.mem_append_left _ (List.mem_of_getElem? (i := 1) rfl)), List.forall_mem_cons.mpr ⟨List.mem_cons_of_mem _ (List.mem_append_left _ (List.mem_of_getElem? (i := 2) rfl)), List.forall_mem_cons.mpr ⟨List.mem_cons_of_mem _ (List.mem_append_left _ (List.mem_of_getElem? (i := 3) rfl)), List.forall_mem_cons.mpr ⟨List.mem_cons_of_mem _ (List.mem_append_left _ (List.mem_of_getElem? (i := 4) rfl)), List.forall_mem_cons.mpr ⟨List.mem_cons_of_mem _ (List.mem_append_left _ (List.mem_of_getElem? (i := 5) rfl)), List.forall_mem_cons.mpr ⟨List.mem_cons_of_mem _ (List.mem_append_left _ (List.mem_of_getElem? (i := 6) rfl)), (fun _ h => absurd h List.not_mem_nil)⟩⟩⟩⟩⟩⟩⟩, (fun _ h => List.mem_cons_of_mem _ (List.mem_append_right _ h))⟩⟩⟩) (by decide +kernel)
set_option maxHeartbeats 4000000 in
set_option maxRecDepth 100000 in
theorem s_X12_fitsRight (l : Launch) (D : va_G) (sz : Nat) (o : Nat) (a : Nat → Nat) (t : Nat → ClassId) (i : Nat → Int32) (q : Int64) (c : Nat → Nat → Int32) (d : Nat → Nat → Int64) (f : Int32) (w2 : Int32) (hI : mInv i c) (hw2 : 0 ≤ w2.toInt ∧ w2.toInt ≤ 29) : Met l yX12_fitsRight wm_X12_fitsRight ({ frames := 2, cells := 0, slots := 0, locals := 44 }) (va_Pc [.ref o, .int f, .int w2] (pA D sz (mW o a t i q c d) (mT t))) (va_Qi (fun (r : Int32) (_ : Unit) => ((0 ≤ r.toInt ∧ r.toInt ≤ 1) ∧ (Im (r.toInt = 1) (Im (f.toInt = 5) (Kd (c 3) (c 6) w2.toInt 0 ∨ Kd (c 3) (c 6) w2.toInt 2))))) oA (ro sz)) 0 0 (ro sz) := by
  refine Met.ofW (cc := cX12_fitsRight) (maxL := 3) (ret := (some .boolean)) (by decide +kernel) rfl ?_
  intro p e s m args below meth cd s₁ B hml hv
  obtain ⟨rfl, hsz, hP, hK⟩ := hv
  have hx := B.exec
  have hb := B.bytes
  have hr := B.returns
  have hts := atoms_spec (ws := wm_X12_fitsRight) B.pre
  have hown : s.vm.findClass RX12 = some m.cls := findClass_of_methodNamed B.named
  have hlocks := B.notSynchronized
  subst hsz
  have hA : ∀ q : Nat, s.heap.size ≤ q → ro s.heap.size q := fun _ h => h
  have hS : va_S (ro s.heap.size) s.heap s.heap [] := va_S.rf
  have hl := lv_entry ([.ref o, .int f, .int w2]) (n := 3) (Nat.le_of_ble_eq_true rfl)
  rw [lg_entry_eq]
  generalize (lg_sl ([.ref o, .int f, .int w2]) ++ List.replicate (3 - (lg_sl ([.ref o, .int f, .int w2])).length) Slot.unset).toArray = ls at hl ⊢
  have hl : lv_has ls 3 [(0, .ref o), (1, .int f), (2, .int w2)] := hl
  refine lv_iload_n hx hb dX12_fitsRight_0 rfl (lv_at hl 1 rfl) ?_
  rcases (show (f.toInt < 0 ∨ 7 < f.toInt) ∨ f.toInt = 0 ∨ f.toInt = 1 ∨ f.toInt = 2 ∨ f.toInt = 3 ∨ f.toInt = 4 ∨ f.toInt = 5 ∨ f.toInt = 6 ∨ f.toInt = 7 by omega) with f1 | f1 | f1 | f1 | f1 | f1 | f1 | f1 | f1
  · refine lv_tableOut (tgt := 123) hx hb dX12_fitsRight_1 f1 (by decide +kernel) ?_
    refine lv_iconst (v := 1) hx hb dX12_fitsRight_123 (by decide +kernel) ?_
    exact ro_zret hx hb hr hlocks hS rfl dX12_fitsRight_124 ⟨(show 0 ≤ (1 : Int32).toInt ∧ (1 : Int32).toInt ≤ 1 from by decide +kernel), (show Im ((1 : Int32).toInt = 1) (Im (f.toInt = 5) (Kd (c 3) (c 6) w2.toInt 0 ∨ Kd (c 3) (c 6) w2.toInt 2)) from fun _ h8 => by first | (exfalso; omega) | exact Or.inl (by assumption) | exact Or.inr (by assumption))⟩
  · refine lv_tableIn (off := 47) (tgt := 48) hx hb dX12_fitsRight_1 (by omega) (by omega) (by rw [f1]; rfl) (by decide +kernel) ?_
    refine lv_aload_n hx hb dX12_fitsRight_48 rfl (lv_at hl 0 rfl) ?_
    refine lv_iload_n hx hb dX12_fitsRight_49 rfl (lv_at hl 2 rfl) ?_
    refine lv_iconst (v := 0) hx hb dX12_fitsRight_50 (by decide +kernel) ?_
    refine ro_calli (va_runV (As := [.int w2, .int 0]) (rest := []) ⟨hx, hb, hml, hown, hts⟩ (s_X12_isOf l D s.heap.size o a t i q c d w2 0 hI (show 0 ≤ w2.toInt ∧ w2.toInt ≤ 29 from by have h91 : (0 : Int32).toInt = 0 := (by decide +kernel); omega) (show 0 ≤ 0 from by decide +kernel)) (cwV 2 hts gm_X12_fitsRight_X12_isOf rfl rfl rfl (by decide +kernel) ⟨Nat.le_of_ble_eq_true rfl, Nat.le_of_ble_eq_true rfl⟩) (pA_V hK hP (ci := 12) (q0 := 0) rfl rfl) rfl rfl hl.1 rfl (lv_room (Nat.le_of_ble_eq_true rfl)) dX12_fitsRight_51 ⟨Nat.le_of_ble_eq_true rfl, Nat.le_of_ble_eq_true rfl⟩) hS hA hP (fun r2 u2 H locs hw2 hP hS => ?_)
    have hw2 : ((0 ≤ r2.toInt ∧ r2.toInt ≤ 1) ∧ (Sm r2 (Kd (c 3) (c 6) w2.toInt 0))) := hw2
    obtain ⟨hw2, hr2_0⟩ := hw2
    have hr2_0 : Sm r2 (Kd (c 3) (c 6) w2.toInt 0) := hr2_0
    refine lv_if_ne (tgt := 66) hx hb dX12_fitsRight_54 (by decide +kernel) (fun c3 => ?_) (fun c3 => ?_)
    · have f3 := mt (ti_eq (a := r2.toInt) (b := 0) rfl (by decide +kernel)).mpr c3
      have s3 := sm_t hr2_0 c3
      refine lv_iconst (v := 1) hx hb dX12_fitsRight_66 (by decide +kernel) ?_
      refine lv_goto (tgt := 71) hx hb dX12_fitsRight_67 (by decide +kernel) ?_
      exact ro_zret hx hb hr hlocks hS rfl dX12_fitsRight_71 ⟨(show 0 ≤ (1 : Int32).toInt ∧ (1 : Int32).toInt ≤ 1 from by decide +kernel), (show Im ((1 : Int32).toInt = 1) (Im (f.toInt = 5) (Kd (c 3) (c 6) w2.toInt 0 ∨ Kd (c 3) (c 6) w2.toInt 2)) from fun _ h8 => by first | (exfalso; omega) | exact Or.inl (by assumption) | exact Or.inr (by assumption))⟩
    · have f3 := (ti_eq (a := r2.toInt) (b := 0) rfl (by decide +kernel)).mp c3
      have s3 := sm_f hr2_0 c3
      refine lv_aload_n hx hb dX12_fitsRight_57 rfl (lv_at hl 0 rfl) ?_
      refine lv_iload_n hx hb dX12_fitsRight_58 rfl (lv_at hl 2 rfl) ?_
      refine lv_iconst (v := 3) hx hb dX12_fitsRight_59 (by decide +kernel) ?_
      refine ro_calli (va_runV (As := [.int w2, .int 3]) (rest := []) ⟨hx, hb, hml, hown, hts⟩ (s_X12_isOf l D H.size o a t i q c d w2 3 hI (show 0 ≤ w2.toInt ∧ w2.toInt ≤ 29 from by have h91 : (3 : Int32).toInt = 3 := (by decide +kernel); omega) (show 0 ≤ 3 from by decide +kernel)) (cwV 2 hts gm_X12_fitsRight_X12_isOf rfl rfl rfl (by decide +kernel) ⟨Nat.le_of_ble_eq_true rfl, Nat.le_of_ble_eq_true rfl⟩) (pA_V hK hP (ci := 12) (q0 := 0) rfl rfl) rfl rfl hl.1 rfl (lv_room (Nat.le_of_ble_eq_true rfl)) dX12_fitsRight_60 ⟨Nat.le_of_ble_eq_true rfl, Nat.le_of_ble_eq_true rfl⟩) hS hA hP (fun r4 u4 H locs hw4 hP hS => ?_)
      have hw4 : ((0 ≤ r4.toInt ∧ r4.toInt ≤ 1) ∧ (Sm r4 (Kd (c 3) (c 6) w2.toInt 3))) := hw4
      obtain ⟨hw4, hr4_0⟩ := hw4
      have hr4_0 : Sm r4 (Kd (c 3) (c 6) w2.toInt 3) := hr4_0
      refine lv_if_eq (tgt := 70) hx hb dX12_fitsRight_63 (by decide +kernel) (fun c5 => ?_) (fun c5 => ?_)
      · have f5 := (ti_eq (a := r4.toInt) (b := 0) rfl (by decide +kernel)).mp c5
        have s5 := sm_f hr4_0 c5
        refine lv_iconst (v := 0) hx hb dX12_fitsRight_70 (by decide +kernel) ?_
        exact ro_zret hx hb hr hlocks hS rfl dX12_fitsRight_71 ⟨(show 0 ≤ (0 : Int32).toInt ∧ (0 : Int32).toInt ≤ 1 from by decide +kernel), (show Im ((0 : Int32).toInt = 1) (Im (f.toInt = 5) (Kd (c 3) (c 6) w2.toInt 0 ∨ Kd (c 3) (c 6) w2.toInt 2)) from fun h9 => absurd h9 (by decide +kernel))⟩
      · have f5 := mt (ti_eq (a := r4.toInt) (b := 0) rfl (by decide +kernel)).mpr c5
        have s5 := sm_t hr4_0 c5
        refine lv_iconst (v := 1) hx hb dX12_fitsRight_66 (by decide +kernel) ?_
        refine lv_goto (tgt := 71) hx hb dX12_fitsRight_67 (by decide +kernel) ?_
        exact ro_zret hx hb hr hlocks hS rfl dX12_fitsRight_71 ⟨(show 0 ≤ (1 : Int32).toInt ∧ (1 : Int32).toInt ≤ 1 from by decide +kernel), (show Im ((1 : Int32).toInt = 1) (Im (f.toInt = 5) (Kd (c 3) (c 6) w2.toInt 0 ∨ Kd (c 3) (c 6) w2.toInt 2)) from fun _ h8 => by first | (exfalso; omega) | exact Or.inl (by assumption) | exact Or.inr (by assumption))⟩
  · refine lv_tableIn (off := 71) (tgt := 72) hx hb dX12_fitsRight_1 (by omega) (by omega) (by rw [f1]; rfl) (by decide +kernel) ?_
    refine lv_aload_n hx hb dX12_fitsRight_72 rfl (lv_at hl 0 rfl) ?_
    refine lv_iload_n hx hb dX12_fitsRight_73 rfl (lv_at hl 2 rfl) ?_
    refine lv_iconst (v := 4) hx hb dX12_fitsRight_74 (by decide +kernel) ?_
    refine ro_calli (va_runV (As := [.int w2, .int 4]) (rest := []) ⟨hx, hb, hml, hown, hts⟩ (s_X12_isOf l D s.heap.size o a t i q c d w2 4 hI (show 0 ≤ w2.toInt ∧ w2.toInt ≤ 29 from by have h91 : (4 : Int32).toInt = 4 := (by decide +kernel); omega) (show 0 ≤ 4 from by decide +kernel)) (cwV 2 hts gm_X12_fitsRight_X12_isOf rfl rfl rfl (by decide +kernel) ⟨Nat.le_of_ble_eq_true rfl, Nat.le_of_ble_eq_true rfl⟩) (pA_V hK hP (ci := 12) (q0 := 0) rfl rfl) rfl rfl hl.1 rfl (lv_room (Nat.le_of_ble_eq_true rfl)) dX12_fitsRight_75 ⟨Nat.le_of_ble_eq_true rfl, Nat.le_of_ble_eq_true rfl⟩) hS hA hP (fun r6 u6 H locs hw6 hP hS => ?_)
    have hw6 : ((0 ≤ r6.toInt ∧ r6.toInt ≤ 1) ∧ (Sm r6 (Kd (c 3) (c 6) w2.toInt 4))) := hw6
    obtain ⟨hw6, hr6_0⟩ := hw6
    have hr6_0 : Sm r6 (Kd (c 3) (c 6) w2.toInt 4) := hr6_0
    exact ro_zret hx hb hr hlocks hS (nb_n (show 0 ≤ r6.toInt ∧ r6.toInt ≤ 1 from by omega)) dX12_fitsRight_78 ⟨(show 0 ≤ r6.toInt ∧ r6.toInt ≤ 1 from by omega), (show Im (r6.toInt = 1) (Im (f.toInt = 5) (Kd (c 3) (c 6) w2.toInt 0 ∨ Kd (c 3) (c 6) w2.toInt 2)) from fun h9 h8 => by exfalso; omega)⟩
  · refine lv_tableIn (off := 78) (tgt := 79) hx hb dX12_fitsRight_1 (by omega) (by omega) (by rw [f1]; rfl) (by decide +kernel) ?_
    refine lv_aload_n hx hb dX12_fitsRight_79 rfl (lv_at hl 0 rfl) ?_
    refine lv_iload_n hx hb dX12_fitsRight_80 rfl (lv_at hl 2 rfl) ?_
    refine lv_iconst (v := 5) hx hb dX12_fitsRight_81 (by decide +kernel) ?_
    refine ro_calli (va_runV (As := [.int w2, .int 5]) (rest := []) ⟨hx, hb, hml, hown, hts⟩ (s_X12_isOf l D s.heap.size o a t i q c d w2 5 hI (show 0 ≤ w2.toInt ∧ w2.toInt ≤ 29 from by have h91 : (5 : Int32).toInt = 5 := (by decide +kernel); omega) (show 0 ≤ 5 from by decide +kernel)) (cwV 2 hts gm_X12_fitsRight_X12_isOf rfl rfl rfl (by decide +kernel) ⟨Nat.le_of_ble_eq_true rfl, Nat.le_of_ble_eq_true rfl⟩) (pA_V hK hP (ci := 12) (q0 := 0) rfl rfl) rfl rfl hl.1 rfl (lv_room (Nat.le_of_ble_eq_true rfl)) dX12_fitsRight_82 ⟨Nat.le_of_ble_eq_true rfl, Nat.le_of_ble_eq_true rfl⟩) hS hA hP (fun r7 u7 H locs hw7 hP hS => ?_)
    have hw7 : ((0 ≤ r7.toInt ∧ r7.toInt ≤ 1) ∧ (Sm r7 (Kd (c 3) (c 6) w2.toInt 5))) := hw7
    obtain ⟨hw7, hr7_0⟩ := hw7
    have hr7_0 : Sm r7 (Kd (c 3) (c 6) w2.toInt 5) := hr7_0
    exact ro_zret hx hb hr hlocks hS (nb_n (show 0 ≤ r7.toInt ∧ r7.toInt ≤ 1 from by omega)) dX12_fitsRight_85 ⟨(show 0 ≤ r7.toInt ∧ r7.toInt ≤ 1 from by omega), (show Im (r7.toInt = 1) (Im (f.toInt = 5) (Kd (c 3) (c 6) w2.toInt 0 ∨ Kd (c 3) (c 6) w2.toInt 2)) from fun h9 h8 => by exfalso; omega)⟩
  · refine lv_tableIn (off := 78) (tgt := 79) hx hb dX12_fitsRight_1 (by omega) (by omega) (by rw [f1]; rfl) (by decide +kernel) ?_
    refine lv_aload_n hx hb dX12_fitsRight_79 rfl (lv_at hl 0 rfl) ?_
    refine lv_iload_n hx hb dX12_fitsRight_80 rfl (lv_at hl 2 rfl) ?_
    refine lv_iconst (v := 5) hx hb dX12_fitsRight_81 (by decide +kernel) ?_
    refine ro_calli (va_runV (As := [.int w2, .int 5]) (rest := []) ⟨hx, hb, hml, hown, hts⟩ (s_X12_isOf l D s.heap.size o a t i q c d w2 5 hI (show 0 ≤ w2.toInt ∧ w2.toInt ≤ 29 from by have h91 : (5 : Int32).toInt = 5 := (by decide +kernel); omega) (show 0 ≤ 5 from by decide +kernel)) (cwV 2 hts gm_X12_fitsRight_X12_isOf rfl rfl rfl (by decide +kernel) ⟨Nat.le_of_ble_eq_true rfl, Nat.le_of_ble_eq_true rfl⟩) (pA_V hK hP (ci := 12) (q0 := 0) rfl rfl) rfl rfl hl.1 rfl (lv_room (Nat.le_of_ble_eq_true rfl)) dX12_fitsRight_82 ⟨Nat.le_of_ble_eq_true rfl, Nat.le_of_ble_eq_true rfl⟩) hS hA hP (fun r8 u8 H locs hw8 hP hS => ?_)
    have hw8 : ((0 ≤ r8.toInt ∧ r8.toInt ≤ 1) ∧ (Sm r8 (Kd (c 3) (c 6) w2.toInt 5))) := hw8
    obtain ⟨hw8, hr8_0⟩ := hw8
    have hr8_0 : Sm r8 (Kd (c 3) (c 6) w2.toInt 5) := hr8_0
    exact ro_zret hx hb hr hlocks hS (nb_n (show 0 ≤ r8.toInt ∧ r8.toInt ≤ 1 from by omega)) dX12_fitsRight_85 ⟨(show 0 ≤ r8.toInt ∧ r8.toInt ≤ 1 from by omega), (show Im (r8.toInt = 1) (Im (f.toInt = 5) (Kd (c 3) (c 6) w2.toInt 0 ∨ Kd (c 3) (c 6) w2.toInt 2)) from fun h9 h8 => by exfalso; omega)⟩
  · refine lv_tableIn (off := 85) (tgt := 86) hx hb dX12_fitsRight_1 (by omega) (by omega) (by rw [f1]; rfl) (by decide +kernel) ?_
    refine lv_aload_n hx hb dX12_fitsRight_86 rfl (lv_at hl 0 rfl) ?_
    refine lv_iload_n hx hb dX12_fitsRight_87 rfl (lv_at hl 2 rfl) ?_
    refine lv_iconst (v := 1) hx hb dX12_fitsRight_88 (by decide +kernel) ?_
    refine ro_calli (va_runV (As := [.int w2, .int 1]) (rest := []) ⟨hx, hb, hml, hown, hts⟩ (s_X12_isOf l D s.heap.size o a t i q c d w2 1 hI (show 0 ≤ w2.toInt ∧ w2.toInt ≤ 29 from by have h91 : (1 : Int32).toInt = 1 := (by decide +kernel); omega) (show 0 ≤ 1 from by decide +kernel)) (cwV 2 hts gm_X12_fitsRight_X12_isOf rfl rfl rfl (by decide +kernel) ⟨Nat.le_of_ble_eq_true rfl, Nat.le_of_ble_eq_true rfl⟩) (pA_V hK hP (ci := 12) (q0 := 0) rfl rfl) rfl rfl hl.1 rfl (lv_room (Nat.le_of_ble_eq_true rfl)) dX12_fitsRight_89 ⟨Nat.le_of_ble_eq_true rfl, Nat.le_of_ble_eq_true rfl⟩) hS hA hP (fun r9 u9 H locs hw9 hP hS => ?_)
    have hw9 : ((0 ≤ r9.toInt ∧ r9.toInt ≤ 1) ∧ (Sm r9 (Kd (c 3) (c 6) w2.toInt 1))) := hw9
    obtain ⟨hw9, hr9_0⟩ := hw9
    have hr9_0 : Sm r9 (Kd (c 3) (c 6) w2.toInt 1) := hr9_0
    exact ro_zret hx hb hr hlocks hS (nb_n (show 0 ≤ r9.toInt ∧ r9.toInt ≤ 1 from by omega)) dX12_fitsRight_92 ⟨(show 0 ≤ r9.toInt ∧ r9.toInt ≤ 1 from by omega), (show Im (r9.toInt = 1) (Im (f.toInt = 5) (Kd (c 3) (c 6) w2.toInt 0 ∨ Kd (c 3) (c 6) w2.toInt 2)) from fun h9 h8 => by exfalso; omega)⟩
  · refine lv_tableIn (off := 92) (tgt := 93) hx hb dX12_fitsRight_1 (by omega) (by omega) (by rw [f1]; rfl) (by decide +kernel) ?_
    refine lv_aload_n hx hb dX12_fitsRight_93 rfl (lv_at hl 0 rfl) ?_
    refine lv_iload_n hx hb dX12_fitsRight_94 rfl (lv_at hl 2 rfl) ?_
    refine lv_iconst (v := 0) hx hb dX12_fitsRight_95 (by decide +kernel) ?_
    refine ro_calli (va_runV (As := [.int w2, .int 0]) (rest := []) ⟨hx, hb, hml, hown, hts⟩ (s_X12_isOf l D s.heap.size o a t i q c d w2 0 hI (show 0 ≤ w2.toInt ∧ w2.toInt ≤ 29 from by have h91 : (0 : Int32).toInt = 0 := (by decide +kernel); omega) (show 0 ≤ 0 from by decide +kernel)) (cwV 2 hts gm_X12_fitsRight_X12_isOf rfl rfl rfl (by decide +kernel) ⟨Nat.le_of_ble_eq_true rfl, Nat.le_of_ble_eq_true rfl⟩) (pA_V hK hP (ci := 12) (q0 := 0) rfl rfl) rfl rfl hl.1 rfl (lv_room (Nat.le_of_ble_eq_true rfl)) dX12_fitsRight_96 ⟨Nat.le_of_ble_eq_true rfl, Nat.le_of_ble_eq_true rfl⟩) hS hA hP (fun r10 u10 H locs hw10 hP hS => ?_)
    have hw10 : ((0 ≤ r10.toInt ∧ r10.toInt ≤ 1) ∧ (Sm r10 (Kd (c 3) (c 6) w2.toInt 0))) := hw10
    obtain ⟨hw10, hr10_0⟩ := hw10
    have hr10_0 : Sm r10 (Kd (c 3) (c 6) w2.toInt 0) := hr10_0
    refine lv_if_ne (tgt := 111) hx hb dX12_fitsRight_99 (by decide +kernel) (fun c11 => ?_) (fun c11 => ?_)
    · have f11 := mt (ti_eq (a := r10.toInt) (b := 0) rfl (by decide +kernel)).mpr c11
      have s11 := sm_t hr10_0 c11
      refine lv_iconst (v := 1) hx hb dX12_fitsRight_111 (by decide +kernel) ?_
      refine lv_goto (tgt := 116) hx hb dX12_fitsRight_112 (by decide +kernel) ?_
      exact ro_zret hx hb hr hlocks hS rfl dX12_fitsRight_116 ⟨(show 0 ≤ (1 : Int32).toInt ∧ (1 : Int32).toInt ≤ 1 from by decide +kernel), (show Im ((1 : Int32).toInt = 1) (Im (f.toInt = 5) (Kd (c 3) (c 6) w2.toInt 0 ∨ Kd (c 3) (c 6) w2.toInt 2)) from fun _ h8 => by first | (exfalso; omega) | exact Or.inl (by assumption) | exact Or.inr (by assumption))⟩
    · have f11 := (ti_eq (a := r10.toInt) (b := 0) rfl (by decide +kernel)).mp c11
      have s11 := sm_f hr10_0 c11
      refine lv_aload_n hx hb dX12_fitsRight_102 rfl (lv_at hl 0 rfl) ?_
      refine lv_iload_n hx hb dX12_fitsRight_103 rfl (lv_at hl 2 rfl) ?_
      refine lv_iconst (v := 2) hx hb dX12_fitsRight_104 (by decide +kernel) ?_
      refine ro_calli (va_runV (As := [.int w2, .int 2]) (rest := []) ⟨hx, hb, hml, hown, hts⟩ (s_X12_isOf l D H.size o a t i q c d w2 2 hI (show 0 ≤ w2.toInt ∧ w2.toInt ≤ 29 from by have h91 : (2 : Int32).toInt = 2 := (by decide +kernel); omega) (show 0 ≤ 2 from by decide +kernel)) (cwV 2 hts gm_X12_fitsRight_X12_isOf rfl rfl rfl (by decide +kernel) ⟨Nat.le_of_ble_eq_true rfl, Nat.le_of_ble_eq_true rfl⟩) (pA_V hK hP (ci := 12) (q0 := 0) rfl rfl) rfl rfl hl.1 rfl (lv_room (Nat.le_of_ble_eq_true rfl)) dX12_fitsRight_105 ⟨Nat.le_of_ble_eq_true rfl, Nat.le_of_ble_eq_true rfl⟩) hS hA hP (fun r12 u12 H locs hw12 hP hS => ?_)
      have hw12 : ((0 ≤ r12.toInt ∧ r12.toInt ≤ 1) ∧ (Sm r12 (Kd (c 3) (c 6) w2.toInt 2))) := hw12
      obtain ⟨hw12, hr12_0⟩ := hw12
      have hr12_0 : Sm r12 (Kd (c 3) (c 6) w2.toInt 2) := hr12_0
      refine lv_if_eq (tgt := 115) hx hb dX12_fitsRight_108 (by decide +kernel) (fun c13 => ?_) (fun c13 => ?_)
      · have f13 := (ti_eq (a := r12.toInt) (b := 0) rfl (by decide +kernel)).mp c13
        have s13 := sm_f hr12_0 c13
        refine lv_iconst (v := 0) hx hb dX12_fitsRight_115 (by decide +kernel) ?_
        exact ro_zret hx hb hr hlocks hS rfl dX12_fitsRight_116 ⟨(show 0 ≤ (0 : Int32).toInt ∧ (0 : Int32).toInt ≤ 1 from by decide +kernel), (show Im ((0 : Int32).toInt = 1) (Im (f.toInt = 5) (Kd (c 3) (c 6) w2.toInt 0 ∨ Kd (c 3) (c 6) w2.toInt 2)) from fun h9 => absurd h9 (by decide +kernel))⟩
      · have f13 := mt (ti_eq (a := r12.toInt) (b := 0) rfl (by decide +kernel)).mpr c13
        have s13 := sm_t hr12_0 c13
        refine lv_iconst (v := 1) hx hb dX12_fitsRight_111 (by decide +kernel) ?_
        refine lv_goto (tgt := 116) hx hb dX12_fitsRight_112 (by decide +kernel) ?_
        exact ro_zret hx hb hr hlocks hS rfl dX12_fitsRight_116 ⟨(show 0 ≤ (1 : Int32).toInt ∧ (1 : Int32).toInt ≤ 1 from by decide +kernel), (show Im ((1 : Int32).toInt = 1) (Im (f.toInt = 5) (Kd (c 3) (c 6) w2.toInt 0 ∨ Kd (c 3) (c 6) w2.toInt 2)) from fun _ h8 => by first | (exfalso; omega) | exact Or.inl (by assumption) | exact Or.inr (by assumption))⟩
  · refine lv_tableIn (off := 122) (tgt := 123) hx hb dX12_fitsRight_1 (by omega) (by omega) (by rw [f1]; rfl) (by decide +kernel) ?_
    refine lv_iconst (v := 1) hx hb dX12_fitsRight_123 (by decide +kernel) ?_
    exact ro_zret hx hb hr hlocks hS rfl dX12_fitsRight_124 ⟨(show 0 ≤ (1 : Int32).toInt ∧ (1 : Int32).toInt ≤ 1 from by decide +kernel), (show Im ((1 : Int32).toInt = 1) (Im (f.toInt = 5) (Kd (c 3) (c 6) w2.toInt 0 ∨ Kd (c 3) (c 6) w2.toInt 2)) from fun _ h8 => by first | (exfalso; omega) | exact Or.inl (by assumption) | exact Or.inr (by assumption))⟩
  · refine lv_tableIn (off := 116) (tgt := 117) hx hb dX12_fitsRight_1 (by omega) (by omega) (by rw [f1]; rfl) (by decide +kernel) ?_
    refine lv_aload_n hx hb dX12_fitsRight_117 rfl (lv_at hl 0 rfl) ?_
    refine lv_iload_n hx hb dX12_fitsRight_118 rfl (lv_at hl 2 rfl) ?_
    refine ro_calli (va_runV (As := [.int w2]) (rest := []) ⟨hx, hb, hml, hown, hts⟩ (s_X12_isShutter l D s.heap.size o a t i q c d w2 hI (show 0 ≤ w2.toInt ∧ w2.toInt ≤ 29 from by omega)) (cwV 1 hts gm_X12_fitsRight_X12_isShutter rfl rfl rfl (by decide +kernel) ⟨Nat.le_of_ble_eq_true rfl, Nat.le_of_ble_eq_true rfl⟩) (pA_V hK hP (ci := 12) (q0 := 0) rfl rfl) rfl rfl hl.1 rfl (lv_room (Nat.le_of_ble_eq_true rfl)) dX12_fitsRight_119 ⟨Nat.le_of_ble_eq_true rfl, Nat.le_of_ble_eq_true rfl⟩) hS hA hP (fun r14 u14 H locs hw14 hP hS => ?_)
    have hw14 : (0 ≤ r14.toInt ∧ r14.toInt ≤ 1) := hw14
    exact ro_zret hx hb hr hlocks hS (nb_n (show 0 ≤ r14.toInt ∧ r14.toInt ≤ 1 from by omega)) dX12_fitsRight_122 ⟨(show 0 ≤ r14.toInt ∧ r14.toInt ≤ 1 from by omega), (show Im (r14.toInt = 1) (Im (f.toInt = 5) (Kd (c 3) (c 6) w2.toInt 0 ∨ Kd (c 3) (c 6) w2.toInt 2)) from fun h9 h8 => by exfalso; omega)⟩

def wm_X12_isPlaceBarred : List Cond := .code yX12_isPlaceBarred cX12_isPlaceBarred 7 (some .boolean) :: ((([.methodLink RX12 208 yX12_placing, .instanceMethod yX12_placing, .selects RX12 yX12_placing yX12_placing, .initialized RX12, .code yX12_placing cX12_placing 3 (some .int), .fieldLink RX12 202 "TalePlayModel" "sentences" "I", .fieldLink RX12 37 "TalePlayModel" "isSaid" "[Z", .fieldLink RX12 25 "TalePlayModel" "form" "[I", .fieldLink RX12 28 "TalePlayModel" "left" "[I", .fieldLink RX12 205 "TalePlayModel" "rowMany" "I", .methodLink RX12 212 yX12_clashes, .instanceMethod yX12_clashes, .selects RX12 yX12_clashes yX12_clashes, .code yX12_clashes cX12_clashes 2 none, .fieldLink RX12 41 "TalePlayModel" "row" "[I", .methodLink RX12 216 yX12_saidSo] : List Cond) ++ ([.instanceMethod yX12_saidSo, .selects RX12 yX12_saidSo yX12_saidSo, .code yX12_saidSo cX12_saidSo 6 (some .int), .fieldLink RX12 31 "TalePlayModel" "middle" "[I", .fieldLink RX12 34 "TalePlayModel" "right" "[I"] : List Cond)) ++ wsX120)
set_option maxRecDepth 20000 in
theorem gm_X12_isPlaceBarred_X12_placing : GoodIn wm_X12_isPlaceBarred (wsV RX12 208 RX12 yX12_placing wm_X12_placing) := goodIn_w (List.forall_mem_append.mpr ⟨List.forall_mem_cons.mpr ⟨List.mem_cons_of_mem _ (List.mem_append_left _ (List.mem_append_left _ (List.mem_of_getElem? (i := 0) rfl))), List.forall_mem_cons.mpr ⟨List.mem_cons_of_mem _ (List.mem_append_left _ (List.mem_append_left _ (List.mem_of_getElem? (i := 1) rfl))), List.forall_mem_cons.mpr ⟨List.mem_cons_of_mem _ (List.mem_append_left _ (List.mem_append_left _ (List.mem_of_getElem? (i := 2) rfl))), List.forall_mem_cons.mpr ⟨List.mem_cons_of_mem _ (List.mem_append_left _ (List.mem_append_left _ (List.mem_of_getElem? (i := 3) rfl))), (fun _ h => absurd h List.not_mem_nil)⟩⟩⟩⟩, List.forall_mem_cons.mpr ⟨List.mem_cons_of_mem _ (List.mem_append_left _ (List.mem_append_left _ (List.mem_of_getElem? (i := 4) rfl))), List.forall_mem_append.mpr ⟨List.forall_mem_cons.mpr ⟨List.mem_cons_of_mem _ (List.mem_append_left _ (List.mem_append_left _ (List.mem_of_getElem? (i := 5) rfl))), List.forall_mem_cons.mpr ⟨List.mem_cons_of_mem _ (List.mem_append_left _ (List.mem_append_left _ (List.mem_of_getElem? (i := 6) rfl))), List.forall_mem_cons.mpr ⟨List.mem_cons_of_mem _ (List.mem_append_left _ (List.mem_append_left _ (List.mem_of_getElem? (i := 7) rfl))), List.forall_mem_cons.mpr ⟨List.mem_cons_of_mem _ (List.mem_append_left _ (List.mem_append_left _ (List.mem_of_getElem? (i := 8) rfl))), (fun _ h => absurd h List.not_mem_nil)⟩⟩⟩⟩, (fun _ h => List.mem_cons_of_mem _ (List.mem_append_right _ h))⟩⟩⟩) (by decide +kernel)
set_option maxRecDepth 20000 in
theorem gm_X12_isPlaceBarred_X12_clashes : GoodIn wm_X12_isPlaceBarred (wsV RX12 212 RX12 yX12_clashes wm_X12_clashes) := goodIn_w (List.forall_mem_append.mpr ⟨List.forall_mem_cons.mpr ⟨List.mem_cons_of_mem _ (List.mem_append_left _ (List.mem_append_left _ (List.mem_of_getElem? (i := 10) rfl))), List.forall_mem_cons.mpr ⟨List.mem_cons_of_mem _ (List.mem_append_left _ (List.mem_append_left _ (List.mem_of_getElem? (i := 11) rfl))), List.forall_mem_cons.mpr ⟨List.mem_cons_of_mem _ (List.mem_append_left _ (List.mem_append_left _ (List.mem_of_getElem? (i := 12) rfl))), List.forall_mem_cons.mpr ⟨List.mem_cons_of_mem _ (List.mem_append_left _ (List.mem_append_left _ (List.mem_of_getElem? (i := 3) rfl))), (fun _ h => absurd h List.not_mem_nil)⟩⟩⟩⟩, List.forall_mem_cons.mpr ⟨List.mem_cons_of_mem _ (List.mem_append_left _ (List.mem_append_left _ (List.mem_of_getElem? (i := 13) rfl))), List.forall_mem_append.mpr ⟨List.forall_mem_cons.mpr ⟨List.mem_cons_of_mem _ (List.mem_append_left _ (List.mem_append_left _ (List.mem_of_getElem? (i := 14) rfl))), List.forall_mem_cons.mpr ⟨List.mem_cons_of_mem _ (List.mem_append_left _ (List.mem_append_left _ (List.mem_of_getElem? (i := 9) rfl))), (fun _ h => absurd h List.not_mem_nil)⟩⟩, (fun _ h => List.mem_cons_of_mem _ (List.mem_append_right _ h))⟩⟩⟩) (by decide +kernel)
set_option maxRecDepth 20000 in
theorem gm_X12_isPlaceBarred_X12_saidSo : GoodIn wm_X12_isPlaceBarred (wsV RX12 216 RX12 yX12_saidSo wm_X12_saidSo) := goodIn_w (List.forall_mem_append.mpr ⟨List.forall_mem_cons.mpr ⟨List.mem_cons_of_mem _ (List.mem_append_left _ (List.mem_append_left _ (List.mem_of_getElem? (i := 15) rfl))), List.forall_mem_cons.mpr ⟨List.mem_cons_of_mem _ (List.mem_append_left _ (List.mem_append_right _ (List.mem_of_getElem? (i := 0) rfl))), List.forall_mem_cons.mpr ⟨List.mem_cons_of_mem _ (List.mem_append_left _ (List.mem_append_right _ (List.mem_of_getElem? (i := 1) rfl))), List.forall_mem_cons.mpr ⟨List.mem_cons_of_mem _ (List.mem_append_left _ (List.mem_append_left _ (List.mem_of_getElem? (i := 3) rfl))), (fun _ h => absurd h List.not_mem_nil)⟩⟩⟩⟩, List.forall_mem_cons.mpr ⟨List.mem_cons_of_mem _ (List.mem_append_left _ (List.mem_append_right _ (List.mem_of_getElem? (i := 2) rfl))), List.forall_mem_append.mpr ⟨List.forall_mem_cons.mpr ⟨List.mem_cons_of_mem _ (List.mem_append_left _ (List.mem_append_left _ (List.mem_of_getElem? (i := 5) rfl))), List.forall_mem_cons.mpr ⟨List.mem_cons_of_mem _ (List.mem_append_left _ (List.mem_append_left _ (List.mem_of_getElem? (i := 6) rfl))), List.forall_mem_cons.mpr ⟨List.mem_cons_of_mem _ (List.mem_append_left _ (List.mem_append_left _ (List.mem_of_getElem? (i := 7) rfl))), List.forall_mem_cons.mpr ⟨List.mem_cons_of_mem _ (List.mem_append_left _ (List.mem_append_left _ (List.mem_of_getElem? (i := 8) rfl))), List.forall_mem_cons.mpr ⟨List.mem_cons_of_mem _ (List.mem_append_left _ (List.mem_append_right _ (List.mem_of_getElem? (i := 3) rfl))), List.forall_mem_cons.mpr ⟨List.mem_cons_of_mem _ (List.mem_append_left _ (List.mem_append_right _ (List.mem_of_getElem? (i := 4) rfl))), (fun _ h => absurd h List.not_mem_nil)⟩⟩⟩⟩⟩⟩, (fun _ h => List.mem_cons_of_mem _ (List.mem_append_right _ h))⟩⟩⟩) (by decide +kernel)
set_option maxHeartbeats 4000000 in
set_option maxRecDepth 100000 in
theorem s_X12_isPlaceBarred (l : Launch) (D : va_G) (sz : Nat) (o : Nat) (a : Nat → Nat) (t : Nat → ClassId) (i : Nat → Int32) (q : Int64) (c : Nat → Nat → Int32) (d : Nat → Nat → Int64) (f : Int32) (w1 : Int32) (w2 : Int32) (hI : mInv i c) (hw1 : 0 ≤ w1.toInt ∧ w1.toInt ≤ 29) (hw2 : 0 ≤ w2.toInt ∧ w2.toInt ≤ 29) (hrm : (i 15).toInt = 0) (hs_S : SJ (c 3) (c 6) (c 9) (c 10) (c 11) (c 13) (i 2).toInt (i 5).toInt (i 8).toInt) : Met l yX12_isPlaceBarred wm_X12_isPlaceBarred ({ frames := 1, cells := 0, slots := 0, locals := 25 }) (va_Pc [.ref o, .int f, .int w1, .int w2] (pB D sz (mW o a t i q c d) (mT t))) (va_Qi (fun (r : Int32) (u : MS) => ((0 ≤ r.toInt ∧ r.toInt ≤ 1) ∧ (Im (r.toInt = 0) (pL (c 9) (c 10) (c 13) (i 8).toInt w1.toInt = -9 ∧ ¬ Ch (fP (c 9) (c 10) (c 11) (c 13) (i 8).toInt) w2.toInt w1.toInt))) ∧ mInv u.1 u.2.2.1 ∧ (∀ k, k ∉ ([15] : List Nat) → u.1 k = i k) ∧ (∀ k, k ∉ ([14] : List Nat) → u.2.2.1 k = c k)) (oC D (va_A (mW o a t i q c d) sz) (fun u : MS => mW o a t u.1 u.2.1 u.2.2.1 u.2.2.2) (fun _ => [])) (va_A (mW o a t i q c d) sz)) 0 0 (va_A (mW o a t i q c d) sz) := by
  refine Met.ofW (cc := cX12_isPlaceBarred) (maxL := 7) (ret := (some .boolean)) (by decide +kernel) rfl ?_
  intro p e s m args below meth cd s₁ B hml hv
  obtain ⟨rfl, hsz, hP, hK, hD0⟩ := hv
  have hx := B.exec
  have hb := B.bytes
  have hr := B.returns
  have hts := atoms_spec (ws := wm_X12_isPlaceBarred) B.pre
  have hown : s.vm.findClass RX12 = some m.cls := findClass_of_methodNamed B.named
  have hlocks := B.notSynchronized
  subst hsz
  have hD := hD0.self (sz := s.heap.size)
  generalize hAe : va_A (mW o a t i q c d) s.heap.size = A at hD ⊢
  have hA : ∀ q : Nat, s.heap.size ≤ q → A q := fun q h => by rw [← hAe]; exact Or.inr h
  have hS : va_S A s.heap s.heap [] := va_S.rf
  have hfi : ∀ k, k ∉ ([] : List Nat) → i k = i k := fun _ _ => rfl
  have hfc : ∀ k, k ∉ ([] : List Nat) → c k = c k := fun _ _ => rfl
  have hl := lv_entry ([.ref o, .int f, .int w1, .int w2]) (n := 7) (Nat.le_of_ble_eq_true rfl)
  rw [lg_entry_eq]
  generalize (lg_sl ([.ref o, .int f, .int w1, .int w2]) ++ List.replicate (7 - (lg_sl ([.ref o, .int f, .int w1, .int w2])).length) Slot.unset).toArray = ls at hl ⊢
  have hl : lv_has ls 7 [(0, .ref o), (1, .int f), (2, .int w1), (3, .int w2)] := hl
  obtain ⟨rk, hrk⟩ := hs_S.2.2.2
  have hr0 := hrk.1 w2.toInt
  refine lv_aload_n hx hb dX12_isPlaceBarred_0 rfl (lv_at hl 0 rfl) ?_
  refine lv_iload_n hx hb dX12_isPlaceBarred_1 rfl (lv_at hl 2 rfl) ?_
  have rb8_i : 0 ≤ (i 8).toInt ∧ (i 8).toInt ≤ 200 := hI.1 8
  refine ro_calli (va_runV (As := [.int w1]) (rest := []) ⟨hx, hb, hml, hown, hts⟩ (s_X12_placing l D s.heap.size o a t i q c d w1 hI ) (cwV 1 hts gm_X12_isPlaceBarred_X12_placing rfl rfl rfl (by decide +kernel) ⟨Nat.le_of_ble_eq_true rfl, Nat.le_of_ble_eq_true rfl⟩) (pA_V hK hP (ci := 12) (q0 := 0) rfl rfl) rfl rfl hl.1 rfl (lv_room (Nat.le_of_ble_eq_true rfl)) dX12_isPlaceBarred_2 ⟨Nat.le_of_ble_eq_true rfl, Nat.le_of_ble_eq_true rfl⟩) hS hA hP (fun r1 u1 H locs hw1 hP hS => ?_)
  have hw1 : ((r1.toInt = -9 ∨ (0 ≤ r1.toInt ∧ r1.toInt ≤ 199)) ∧ (r1.toInt = pL (c 9) (c 10) (c 13) (i 8).toInt w1.toInt)) := hw1
  obtain ⟨hw1, hr1_0⟩ := hw1
  have hr1_0 : r1.toInt = pL (c 9) (c 10) (c 13) (i 8).toInt w1.toInt := hr1_0
  refine lv_istore (lv' := [(4, .int r1), (0, .ref o), (1, .int f), (2, .int w1), (3, .int w2)]) hx hb dX12_isPlaceBarred_5 hl (by decide +kernel) rfl (fun ls hl => ?_)
  refine lv_iload hx hb dX12_isPlaceBarred_7 (lv_at hl 0 rfl) ?_
  refine lv_bipush (v := (-9)) hx hb dX12_isPlaceBarred_9 (by decide +kernel) ?_
  refine lv_icmp_eq (tgt := 22) hx hb dX12_isPlaceBarred_11 (by decide +kernel) (fun c2 => ?_) (fun c2 => ?_)
  · have f2 := (ti_eq (a := r1.toInt) (b := (-9)) rfl (by decide +kernel)).mp c2
    refine lv_iload_n hx hb dX12_isPlaceBarred_22 rfl (lv_at hl 4 rfl) ?_
    refine lv_istore (lv' := [(5, .int w2), (4, .int r1), (0, .ref o), (1, .int f), (2, .int w1), (3, .int w2)]) hx hb dX12_isPlaceBarred_23 hl (by decide +kernel) rfl (fun ls hl => ?_)
    have lp3 : ∀ (fu : Nat) (i3 : Nat → Int32) (q3 : Int64) (c3 : Nat → Nat → Int32) (d3 : Nat → Nat → Int64) (y3_5 : Int32), mInv i3 c3 → (∀ k, k ∉ ([15] : List Nat) → i3 k = i k) → (∀ k, k ∉ ([14] : List Nat) → c3 k = c k) → (0 ≤ y3_5.toInt ∧ y3_5.toInt ≤ 29) → (((i3 15) : Int32).toInt + (rk y3_5.toInt : Int) ≤ 29) → (Ch (fP (c 9) (c 10) (c 11) (c 13) (i 8).toInt) w2.toInt w1.toInt ↔ Ch (fP (c 9) (c 10) (c 11) (c 13) (i 8).toInt) y3_5.toInt w1.toInt) → rk y3_5.toInt < fu → ∀ (H : Heap) (locs : List Loc) (ls : Array Slot), va_P D vwCl (mW o a t i3 q3 c3 d3) H → va_D A (mW o a t i3 q3 c3 d3) → va_S A s.heap H locs → lv_has ls 7 [(5, .int y3_5), (4, .int r1), (0, .ref o), (1, .int f), (2, .int w1), (3, .int w2)] → W p l e (headSpec wm_X12_isPlaceBarred ({ frames := 1, cells := 0, slots := 0, locals := 25 })).room s m ([.ref o, .int f, .int w1, .int w2] : List Value).toArray below meth cd H locs 0 0 (MQ below (va_Qi (fun (r : Int32) (u : MS) => ((0 ≤ r.toInt ∧ r.toInt ≤ 1) ∧ (Im (r.toInt = 0) (pL (c 9) (c 10) (c 13) (i 8).toInt w1.toInt = -9 ∧ ¬ Ch (fP (c 9) (c 10) (c 11) (c 13) (i 8).toInt) w2.toInt w1.toInt))) ∧ mInv u.1 u.2.2.1 ∧ (∀ k, k ∉ ([15] : List Nat) → u.1 k = i k) ∧ (∀ k, k ∉ ([14] : List Nat) → u.2.2.1 k = c k)) (oC D A (fun u : MS => mW o a t u.1 u.2.1 u.2.2.1 u.2.2.2) (fun _ => [])) A) ([.ref o, .int f, .int w1, .int w2] : List Value).toArray s 0 0 A) (F0 m 25 ls []) := by
      intro fu
      induction fu with
      | zero => intro i3 q3 c3 d3 y3_5 hI hfi hfc hy3_5 hz3_0 hz3_1 hm; exact absurd hm (Nat.not_lt_zero _)
      | succ fu ih =>
        intro i3 q3 c3 d3 y3_5 hI hfi hfc hy3_5 hz3_0 hz3_1 hm H locs ls hP hD hS hl
        have ih3 := ih
        refine lv_iload hx hb dX12_isPlaceBarred_25 (lv_at hl 0 rfl) ?_
        refine lv_iload_n hx hb dX12_isPlaceBarred_27 rfl (lv_at hl 4 rfl) ?_
        have jn4 : (y3_5.toInt = w1.toInt ∨ pL (c 9) (c 10) (c 13) (i 8).toInt y3_5.toInt = -9) → ∀ (H : Heap) (locs : List Loc) (ls : Array Slot), va_P D vwCl (mW o a t i3 q3 c3 d3) H → va_D A (mW o a t i3 q3 c3 d3) → va_S A s.heap H locs → lv_has ls 7 [(5, .int y3_5), (4, .int r1), (0, .ref o), (1, .int f), (2, .int w1), (3, .int w2)] → W p l e (headSpec wm_X12_isPlaceBarred ({ frames := 1, cells := 0, slots := 0, locals := 25 })).room s m ([.ref o, .int f, .int w1, .int w2] : List Value).toArray below meth cd H locs 0 0 (MQ below (va_Qi (fun (r : Int32) (u : MS) => ((0 ≤ r.toInt ∧ r.toInt ≤ 1) ∧ (Im (r.toInt = 0) (pL (c 9) (c 10) (c 13) (i 8).toInt w1.toInt = -9 ∧ ¬ Ch (fP (c 9) (c 10) (c 11) (c 13) (i 8).toInt) w2.toInt w1.toInt))) ∧ mInv u.1 u.2.2.1 ∧ (∀ k, k ∉ ([15] : List Nat) → u.1 k = i k) ∧ (∀ k, k ∉ ([14] : List Nat) → u.2.2.1 k = c k)) (oC D A (fun u : MS => mW o a t u.1 u.2.1 u.2.2.1 u.2.2.2) (fun _ => [])) A) ([.ref o, .int f, .int w1, .int w2] : List Value).toArray s 0 0 A) (F0 m 68 ls []) := by
          intro hz4_0 H locs ls hP hD hS hl
          refine lv_iload hx hb dX12_isPlaceBarred_68 (lv_at hl 0 rfl) ?_
          refine lv_iload_n hx hb dX12_isPlaceBarred_70 rfl (lv_at hl 4 rfl) ?_
          refine lv_icmp_ne (tgt := 76) hx hb dX12_isPlaceBarred_71 (by decide +kernel) (fun c5 => ?_) (fun c5 => ?_)
          · have f5 := mt (ti_eq (a := y3_5.toInt) (b := w1.toInt) rfl rfl).mpr c5
            refine lv_aload_n hx hb dX12_isPlaceBarred_76 rfl (lv_at hl 2 rfl) ?_
            refine lv_iconst (v := 0) hx hb dX12_isPlaceBarred_77 (by decide +kernel) ?_
            refine mput_15 hx hb hts (fun _ h => List.mem_cons_of_mem _ (List.mem_append_right _ h)) hown hK hP hD hS (hts (.fieldLink RX12 205 "TalePlayModel" "rowMany" "I") (List.mem_cons_of_mem _ (List.mem_append_left _ (List.mem_append_left _ (List.mem_of_getElem? (i := 9) rfl))))) rfl rfl dX12_isPlaceBarred_78 (fun H locs hP hD hS => ?_)
            have hI := mInv_i hI (k := 15) (v := 0) (show 0 ≤ (0 : Int32).toInt ∧ (0 : Int32).toInt ≤ 200 from by decide +kernel)
            have hfi := fr_i hfi (k := 15) (v := 0) (by decide +kernel)
            refine lv_iload_n hx hb dX12_isPlaceBarred_81 rfl (lv_at hl 3 rfl) ?_
            refine lv_iconst (v := 3) hx hb dX12_isPlaceBarred_82 (by decide +kernel) ?_
            have jn6 : ∀ (z6_0 : Int32), (z6_0.toInt = -9 ∨ (0 ≤ z6_0.toInt ∧ z6_0.toInt ≤ 199)) → ∀ (H : Heap) (locs : List Loc) (ls : Array Slot), va_P D vwCl (mW o a t (upd i3 15 0) q3 c3 d3) H → va_D A (mW o a t (upd i3 15 0) q3 c3 d3) → va_S A s.heap H locs → lv_has ls 7 [(5, .int y3_5), (4, .int r1), (0, .ref o), (1, .int f), (2, .int w1), (3, .int w2)] → W p l e (headSpec wm_X12_isPlaceBarred ({ frames := 1, cells := 0, slots := 0, locals := 25 })).room s m ([.ref o, .int f, .int w1, .int w2] : List Value).toArray below meth cd H locs 0 0 (MQ below (va_Qi (fun (r : Int32) (u : MS) => ((0 ≤ r.toInt ∧ r.toInt ≤ 1) ∧ (Im (r.toInt = 0) (pL (c 9) (c 10) (c 13) (i 8).toInt w1.toInt = -9 ∧ ¬ Ch (fP (c 9) (c 10) (c 11) (c 13) (i 8).toInt) w2.toInt w1.toInt))) ∧ mInv u.1 u.2.2.1 ∧ (∀ k, k ∉ ([15] : List Nat) → u.1 k = i k) ∧ (∀ k, k ∉ ([14] : List Nat) → u.2.2.1 k = c k)) (oC D A (fun u : MS => mW o a t u.1 u.2.1 u.2.2.1 u.2.2.2) (fun _ => [])) A) ([.ref o, .int f, .int w1, .int w2] : List Value).toArray s 0 0 A) (F0 m 100 ls [.int z6_0]) := by
              intro z6_0 hs6_0 H locs ls hP hD hS hl
              refine lv_istore (lv' := [(6, .int z6_0), (5, .int y3_5), (4, .int r1), (0, .ref o), (1, .int f), (2, .int w1), (3, .int w2)]) hx hb dX12_isPlaceBarred_100 hl (by decide +kernel) rfl (fun ls hl => ?_)
              refine lv_iload hx hb dX12_isPlaceBarred_102 (lv_at hl 0 rfl) ?_
              refine lv_bipush (v := (-9)) hx hb dX12_isPlaceBarred_104 (by decide +kernel) ?_
              have jn7 : ∀ (i7 : Nat → Int32) (q7 : Int64) (c7 : Nat → Nat → Int32) (d7 : Nat → Nat → Int64), mInv i7 c7 → (∀ k, k ∉ ([15] : List Nat) → i7 k = i k) → (∀ k, k ∉ ([14] : List Nat) → c7 k = c k) → ∀ (H : Heap) (locs : List Loc) (ls : Array Slot), va_P D vwCl (mW o a t i7 q7 c7 d7) H → va_D A (mW o a t i7 q7 c7 d7) → va_S A s.heap H locs → lv_has ls 7 [(6, .int z6_0), (5, .int y3_5), (4, .int r1), (0, .ref o), (1, .int f), (2, .int w1), (3, .int w2)] → W p l e (headSpec wm_X12_isPlaceBarred ({ frames := 1, cells := 0, slots := 0, locals := 25 })).room s m ([.ref o, .int f, .int w1, .int w2] : List Value).toArray below meth cd H locs 0 0 (MQ below (va_Qi (fun (r : Int32) (u : MS) => ((0 ≤ r.toInt ∧ r.toInt ≤ 1) ∧ (Im (r.toInt = 0) (pL (c 9) (c 10) (c 13) (i 8).toInt w1.toInt = -9 ∧ ¬ Ch (fP (c 9) (c 10) (c 11) (c 13) (i 8).toInt) w2.toInt w1.toInt))) ∧ mInv u.1 u.2.2.1 ∧ (∀ k, k ∉ ([15] : List Nat) → u.1 k = i k) ∧ (∀ k, k ∉ ([14] : List Nat) → u.2.2.1 k = c k)) (oC D A (fun u : MS => mW o a t u.1 u.2.1 u.2.2.1 u.2.2.2) (fun _ => [])) A) ([.ref o, .int f, .int w1, .int w2] : List Value).toArray s 0 0 A) (F0 m 115 ls []) := by
                intro i7 q7 c7 d7 hI hfi hfc H locs ls hP hD hS hl
                refine lv_iload hx hb dX12_isPlaceBarred_115 (lv_at hl 0 rfl) ?_
                refine lv_bipush (v := (-9)) hx hb dX12_isPlaceBarred_117 (by decide +kernel) ?_
                refine lv_icmp_eq (tgt := 126) hx hb dX12_isPlaceBarred_119 (by decide +kernel) (fun c8 => ?_) (fun c8 => ?_)
                · have f8 := (ti_eq (a := z6_0.toInt) (b := (-9)) rfl (by decide +kernel)).mp c8
                  refine lv_iconst (v := 0) hx hb dX12_isPlaceBarred_126 (by decide +kernel) ?_
                  exact rw_zret (i7, q7, c7, d7) hx hb hr hlocks hS (hK.sub (tys' := []) [] rfl) hP hD rfl dX12_isPlaceBarred_127 ⟨⟨(show 0 ≤ (0 : Int32).toInt ∧ (0 : Int32).toInt ≤ 1 from by decide +kernel), (show Im ((0 : Int32).toInt = 0) (pL (c 9) (c 10) (c 13) (i 8).toInt w1.toInt = -9 ∧ ¬ Ch (fP (c 9) (c 10) (c 11) (c 13) (i 8).toInt) w2.toInt w1.toInt) from fun _ => ⟨by omega, fun h8 => by have h7 := (Ch_nx (f := fP (c 9) (c 10) (c 11) (c 13) (i 8).toInt) (show ¬ y3_5.toInt = w1.toInt by omega)).mp (hz3_1.mp h8); rw [fP_no (by omega)] at h7; have h6 := Ch_nd fP_9 h7; omega⟩)⟩, hI, fr_w hfi (by decide +kernel), fr_w hfc (by decide +kernel)⟩
                · have f8 := mt (ti_eq (a := z6_0.toInt) (b := (-9)) rfl (by decide +kernel)).mpr c8
                  refine lv_iconst (v := 1) hx hb dX12_isPlaceBarred_122 (by decide +kernel) ?_
                  refine lv_goto (tgt := 127) hx hb dX12_isPlaceBarred_123 (by decide +kernel) ?_
                  exact rw_zret (i7, q7, c7, d7) hx hb hr hlocks hS (hK.sub (tys' := []) [] rfl) hP hD rfl dX12_isPlaceBarred_127 ⟨⟨(show 0 ≤ (1 : Int32).toInt ∧ (1 : Int32).toInt ≤ 1 from by decide +kernel), (show Im ((1 : Int32).toInt = 0) (pL (c 9) (c 10) (c 13) (i 8).toInt w1.toInt = -9 ∧ ¬ Ch (fP (c 9) (c 10) (c 11) (c 13) (i 8).toInt) w2.toInt w1.toInt) from fun h9 => absurd h9 (by decide +kernel))⟩, hI, fr_w hfi (by decide +kernel), fr_w hfc (by decide +kernel)⟩
              refine lv_icmp_eq (tgt := 115) hx hb dX12_isPlaceBarred_106 (by decide +kernel) (fun c9 => ?_) (fun c9 => ?_)
              · have f9 := (ti_eq (a := z6_0.toInt) (b := (-9)) rfl (by decide +kernel)).mp c9
                exact jn7 (upd i3 15 0) q3 c3 d3   hI (fr_w hfi (by decide +kernel)) (fr_w hfc (by decide +kernel)) _ _ _ hP hD hS (lv_sub hl [0, 1, 2, 3, 4, 5, 6] rfl)
              · have f9 := mt (ti_eq (a := z6_0.toInt) (b := (-9)) rfl (by decide +kernel)).mpr c9
                refine lv_aload_n hx hb dX12_isPlaceBarred_109 rfl (lv_at hl 3 rfl) ?_
                refine lv_iload hx hb dX12_isPlaceBarred_110 (lv_at hl 0 rfl) ?_
                refine al_callv (va_runV (As := [.int z6_0]) (rest := []) ⟨hx, hb, hml, hown, hts⟩ (s_X12_clashes l D H.size o a t (upd i3 15 0) q3 c3 d3 z6_0 hI (show 0 ≤ z6_0.toInt ∧ z6_0.toInt ≤ 199 from by have h60 : (0 : Int32).toInt = 0 := (by decide +kernel); omega) (show (0 : Int32).toInt ≤ 199 from by decide +kernel)) (cwV 1 hts gm_X12_isPlaceBarred_X12_clashes rfl rfl rfl (by decide +kernel) ⟨Nat.le_of_ble_eq_true rfl, Nat.le_of_ble_eq_true rfl⟩) (pB_V hK hP hD (ci := 12) (q0 := 0) rfl rfl) rfl rfl hl.1 rfl (lv_room (Nat.le_of_ble_eq_true rfl)) dX12_isPlaceBarred_112 ⟨Nat.le_of_ble_eq_true rfl, Nat.le_of_ble_eq_true rfl⟩) hS hA hP hD (fun u10 H locs hw10 hP hD hS => ?_)
                obtain ⟨i10, q10, c10, d10⟩ := u10
                have hw10 : True ∧ mInv i10 c10 ∧ (∀ k, k ∉ ([15] : List Nat) → i10 k = (upd i3 15 0) k) ∧ (∀ k, k ∉ ([14] : List Nat) → c10 k = c3 k) ∧ ((i10 15).toInt = ((upd i3 15 0) 15).toInt + 1) := hw10
                obtain ⟨hw10, hI, hei10, hec10, hxp10_0⟩ := hw10
                have hxp10_0 : (i10 15).toInt = ((upd i3 15 0) 15).toInt + 1 := hxp10_0
                have hfi : ∀ k, k ∉ ([15] : List Nat) → i10 k = i k := fr_z hfi hei10 (by decide +kernel) (by decide +kernel)
                have hfc : ∀ k, k ∉ ([14] : List Nat) → c10 k = c k := fr_z hfc hec10 (by decide +kernel) (by decide +kernel)
                have hP : va_P D vwCl (mW o a t i10 q10 c10 d10) H := hP
                have hD : va_D A (mW o a t i10 q10 c10 d10) := hD
                exact jn7 i10 q10 c10 d10   hI (fr_w hfi (by decide +kernel)) (fr_w hfc (by decide +kernel)) _ _ _ hP hD hS (lv_sub hl [0, 1, 2, 3, 4, 5, 6] rfl)
            refine lv_icmp_ne (tgt := 98) hx hb dX12_isPlaceBarred_83 (by decide +kernel) (fun c11 => ?_) (fun c11 => ?_)
            · have f11 := mt (ti_eq (a := f.toInt) (b := 3) rfl (by decide +kernel)).mpr c11
              refine lv_bipush (v := (-9)) hx hb dX12_isPlaceBarred_98 (by decide +kernel) ?_
              exact jn6  ((-9) : Int32) (show ((-9) : Int32).toInt = -9 ∨ (0 ≤ ((-9) : Int32).toInt ∧ ((-9) : Int32).toInt ≤ 199) from by decide +kernel) _ _ _ hP hD hS (lv_sub hl [0, 1, 2, 3, 4, 5] rfl)
            · have f11 := (ti_eq (a := f.toInt) (b := 3) rfl (by decide +kernel)).mp c11
              refine lv_aload_n hx hb dX12_isPlaceBarred_86 rfl (lv_at hl 2 rfl) ?_
              refine lv_bipush (v := 6) hx hb dX12_isPlaceBarred_87 (by decide +kernel) ?_
              refine lv_iload_n hx hb dX12_isPlaceBarred_89 rfl (lv_at hl 4 rfl) ?_
              refine lv_iconst (v := 4) hx hb dX12_isPlaceBarred_90 (by decide +kernel) ?_
              refine lv_iconst (v := 0) hx hb dX12_isPlaceBarred_91 (by decide +kernel) ?_
              refine ro_calli (va_runV (As := [.int 6, .int w1, .int 4, .int 0]) (rest := []) ⟨hx, hb, hml, hown, hts⟩ (s_X12_saidSo l D H.size o a t (upd i3 15 0) q3 c3 d3 6 w1 4 0 hI ) (cwV 4 hts gm_X12_isPlaceBarred_X12_saidSo rfl rfl rfl (by decide +kernel) ⟨Nat.le_of_ble_eq_true rfl, Nat.le_of_ble_eq_true rfl⟩) (pA_V hK hP (ci := 12) (q0 := 0) rfl rfl) rfl rfl hl.1 rfl (lv_room (Nat.le_of_ble_eq_true rfl)) dX12_isPlaceBarred_92 ⟨Nat.le_of_ble_eq_true rfl, Nat.le_of_ble_eq_true rfl⟩) hS hA hP (fun r12 u12 H locs hw12 hP hS => ?_)
              have hw12 : (r12.toInt = -9 ∨ (0 ≤ r12.toInt ∧ r12.toInt ≤ 199)) := hw12
              refine lv_goto (tgt := 100) hx hb dX12_isPlaceBarred_95 (by decide +kernel) ?_
              exact jn6  r12 (show r12.toInt = -9 ∨ (0 ≤ r12.toInt ∧ r12.toInt ≤ 199) from by have h60 : (0 : Int32).toInt = 0 := (by decide +kernel); omega) _ _ _ hP hD hS (lv_sub hl [0, 1, 2, 3, 4, 5] rfl)
          · have f5 := (ti_eq (a := y3_5.toInt) (b := w1.toInt) rfl rfl).mp c5
            refine lv_iconst (v := 1) hx hb dX12_isPlaceBarred_74 (by decide +kernel) ?_
            exact rw_zret (i3, q3, c3, d3) hx hb hr hlocks hS (hK.sub (tys' := []) [] rfl) hP hD rfl dX12_isPlaceBarred_75 ⟨⟨(show 0 ≤ (1 : Int32).toInt ∧ (1 : Int32).toInt ≤ 1 from by decide +kernel), (show Im ((1 : Int32).toInt = 0) (pL (c 9) (c 10) (c 13) (i 8).toInt w1.toInt = -9 ∧ ¬ Ch (fP (c 9) (c 10) (c 11) (c 13) (i 8).toInt) w2.toInt w1.toInt) from fun h9 => absurd h9 (by decide +kernel))⟩, hI, fr_w hfi (by decide +kernel), fr_w hfc (by decide +kernel)⟩
        refine lv_icmp_eq (tgt := 68) hx hb dX12_isPlaceBarred_28 (by decide +kernel) (fun c13 => ?_) (fun c13 => ?_)
        · have f13 := (ti_eq (a := y3_5.toInt) (b := w1.toInt) rfl rfl).mp c13
          exact jn4   (show y3_5.toInt = w1.toInt ∨ pL (c 9) (c 10) (c 13) (i 8).toInt y3_5.toInt = -9 from by omega) _ _ _ hP hD hS (lv_sub hl [0, 1, 2, 3, 4, 5] rfl)
        · have f13 := mt (ti_eq (a := y3_5.toInt) (b := w1.toInt) rfl rfl).mpr c13
          refine lv_aload_n hx hb dX12_isPlaceBarred_31 rfl (lv_at hl 2 rfl) ?_
          refine lv_iload hx hb dX12_isPlaceBarred_32 (lv_at hl 0 rfl) ?_
          have rb8_i3 : 0 ≤ (i3 8).toInt ∧ (i3 8).toInt ≤ 200 := hI.1 8
          have re8_i3 : (i3 8).toInt = (i 8).toInt := congrArg Int32.toInt (hfi 8 (by decide +kernel))
          refine ro_calli (va_runV (As := [.int y3_5]) (rest := []) ⟨hx, hb, hml, hown, hts⟩ (s_X12_placing l D H.size o a t i3 q3 c3 d3 y3_5 hI ) (cwV 1 hts gm_X12_isPlaceBarred_X12_placing rfl rfl rfl (by decide +kernel) ⟨Nat.le_of_ble_eq_true rfl, Nat.le_of_ble_eq_true rfl⟩) (pA_V hK hP (ci := 12) (q0 := 0) rfl rfl) rfl rfl hl.1 rfl (lv_room (Nat.le_of_ble_eq_true rfl)) dX12_isPlaceBarred_34 ⟨Nat.le_of_ble_eq_true rfl, Nat.le_of_ble_eq_true rfl⟩) hS hA hP (fun r14 u14 H locs hw14 hP hS => ?_)
          have hw14 : ((r14.toInt = -9 ∨ (0 ≤ r14.toInt ∧ r14.toInt ≤ 199)) ∧ (r14.toInt = pL (c3 9) (c3 10) (c3 13) (i3 8).toInt y3_5.toInt)) := hw14
          obtain ⟨hw14, hr14_0⟩ := hw14
          have hr14_0 : r14.toInt = pL (c 9) (c 10) (c 13) (i 8).toInt y3_5.toInt := by have h9 := hr14_0; rw [show c3 9 = c 9 from hfc 9 (by decide +kernel), show c3 10 = c 10 from hfc 10 (by decide +kernel), show c3 13 = c 13 from hfc 13 (by decide +kernel), show i3 8 = i 8 from hfi 8 (by decide +kernel)] at h9; exact h9
          refine lv_bipush (v := (-9)) hx hb dX12_isPlaceBarred_37 (by decide +kernel) ?_
          refine lv_icmp_eq (tgt := 68) hx hb dX12_isPlaceBarred_39 (by decide +kernel) (fun c15 => ?_) (fun c15 => ?_)
          · have f15 := (ti_eq (a := r14.toInt) (b := (-9)) rfl (by decide +kernel)).mp c15
            exact jn4   (show y3_5.toInt = w1.toInt ∨ pL (c 9) (c 10) (c 13) (i 8).toInt y3_5.toInt = -9 from by omega) _ _ _ hP hD hS (lv_sub hl [0, 1, 2, 3, 4, 5] rfl)
          · have f15 := mt (ti_eq (a := r14.toInt) (b := (-9)) rfl (by decide +kernel)).mpr c15
            refine lv_aload_n hx hb dX12_isPlaceBarred_42 rfl (lv_at hl 2 rfl) ?_
            refine lv_aload_n hx hb dX12_isPlaceBarred_43 rfl (lv_at hl 2 rfl) ?_
            refine lv_iload hx hb dX12_isPlaceBarred_44 (lv_at hl 0 rfl) ?_
            refine ro_calli (va_runV (As := [.int y3_5]) (rest := [.ref o]) ⟨hx, hb, hml, hown, hts⟩ (s_X12_placing l D H.size o a t i3 q3 c3 d3 y3_5 hI ) (cwV 1 hts gm_X12_isPlaceBarred_X12_placing rfl rfl rfl (by decide +kernel) ⟨Nat.le_of_ble_eq_true rfl, Nat.le_of_ble_eq_true rfl⟩) (pA_V hK hP (ci := 12) (q0 := 0) rfl rfl) rfl rfl hl.1 rfl (lv_room (Nat.le_of_ble_eq_true rfl)) dX12_isPlaceBarred_46 ⟨Nat.le_of_ble_eq_true rfl, Nat.le_of_ble_eq_true rfl⟩) hS hA hP (fun r16 u16 H locs hw16 hP hS => ?_)
            have hw16 : ((r16.toInt = -9 ∨ (0 ≤ r16.toInt ∧ r16.toInt ≤ 199)) ∧ (r16.toInt = pL (c3 9) (c3 10) (c3 13) (i3 8).toInt y3_5.toInt)) := hw16
            obtain ⟨hw16, hr16_0⟩ := hw16
            have hr16_0 : r16.toInt = pL (c 9) (c 10) (c 13) (i 8).toInt y3_5.toInt := by have h9 := hr16_0; rw [show c3 9 = c 9 from hfc 9 (by decide +kernel), show c3 10 = c 10 from hfc 10 (by decide +kernel), show c3 13 = c 13 from hfc 13 (by decide +kernel), show i3 8 = i 8 from hfi 8 (by decide +kernel)] at h9; exact h9
            have rb15_i3 : 0 ≤ (i3 15).toInt ∧ (i3 15).toInt ≤ 200 := hI.1 15
            refine al_callv (va_runV (As := [.int r16]) (rest := []) ⟨hx, hb, hml, hown, hts⟩ (s_X12_clashes l D H.size o a t i3 q3 c3 d3 r16 hI (show 0 ≤ r16.toInt ∧ r16.toInt ≤ 199 from by omega) (show ((i3 15) : Int32).toInt ≤ 199 from by omega)) (cwV 1 hts gm_X12_isPlaceBarred_X12_clashes rfl rfl rfl (by decide +kernel) ⟨Nat.le_of_ble_eq_true rfl, Nat.le_of_ble_eq_true rfl⟩) (pB_V hK hP hD (ci := 12) (q0 := 0) rfl rfl) rfl rfl hl.1 rfl (lv_room (Nat.le_of_ble_eq_true rfl)) dX12_isPlaceBarred_49 ⟨Nat.le_of_ble_eq_true rfl, Nat.le_of_ble_eq_true rfl⟩) hS hA hP hD (fun u17 H locs hw17 hP hD hS => ?_)
            obtain ⟨i17, q17, c17, d17⟩ := u17
            have hw17 : True ∧ mInv i17 c17 ∧ (∀ k, k ∉ ([15] : List Nat) → i17 k = i3 k) ∧ (∀ k, k ∉ ([14] : List Nat) → c17 k = c3 k) ∧ ((i17 15).toInt = (i3 15).toInt + 1) := hw17
            obtain ⟨hw17, hI, hei17, hec17, hxp17_0⟩ := hw17
            have hxp17_0 : (i17 15).toInt = (i3 15).toInt + 1 := hxp17_0
            have hfi : ∀ k, k ∉ ([15] : List Nat) → i17 k = i k := fr_z hfi hei17 (by decide +kernel) (by decide +kernel)
            have hfc : ∀ k, k ∉ ([14] : List Nat) → c17 k = c k := fr_z hfc hec17 (by decide +kernel) (by decide +kernel)
            have hP : va_P D vwCl (mW o a t i17 q17 c17 d17) H := hP
            have hD : va_D A (mW o a t i17 q17 c17 d17) := hD
            refine lv_aload_n hx hb dX12_isPlaceBarred_52 rfl (lv_at hl 2 rfl) ?_
            refine mget_11 hx hb hts (fun _ h => List.mem_cons_of_mem _ (List.mem_append_right _ h)) hown hK hP (hts (.fieldLink RX12 31 "TalePlayModel" "middle" "[I") (List.mem_cons_of_mem _ (List.mem_append_left _ (List.mem_append_right _ (List.mem_of_getElem? (i := 3) rfl))))) dX12_isPlaceBarred_53 ?_
            refine lv_aload_n hx hb dX12_isPlaceBarred_56 rfl (lv_at hl 2 rfl) ?_
            refine lv_iload hx hb dX12_isPlaceBarred_57 (lv_at hl 0 rfl) ?_
            have rb8_i17 : 0 ≤ (i17 8).toInt ∧ (i17 8).toInt ≤ 200 := hI.1 8
            have re8_i17 : (i17 8).toInt = (i 8).toInt := congrArg Int32.toInt (hfi 8 (by decide +kernel))
            refine ro_calli (va_runV (As := [.int y3_5]) (rest := [.ref (a 11)]) ⟨hx, hb, hml, hown, hts⟩ (s_X12_placing l D H.size o a t i17 q17 c17 d17 y3_5 hI ) (cwV 1 hts gm_X12_isPlaceBarred_X12_placing rfl rfl rfl (by decide +kernel) ⟨Nat.le_of_ble_eq_true rfl, Nat.le_of_ble_eq_true rfl⟩) (pA_V hK hP (ci := 12) (q0 := 0) rfl rfl) rfl rfl hl.1 rfl (lv_room (Nat.le_of_ble_eq_true rfl)) dX12_isPlaceBarred_59 ⟨Nat.le_of_ble_eq_true rfl, Nat.le_of_ble_eq_true rfl⟩) hS hA hP (fun r18 u18 H locs hw18 hP hS => ?_)
            have hw18 : ((r18.toInt = -9 ∨ (0 ≤ r18.toInt ∧ r18.toInt ≤ 199)) ∧ (r18.toInt = pL (c17 9) (c17 10) (c17 13) (i17 8).toInt y3_5.toInt)) := hw18
            obtain ⟨hw18, hr18_0⟩ := hw18
            have hr18_0 : r18.toInt = pL (c 9) (c 10) (c 13) (i 8).toInt y3_5.toInt := by have h9 := hr18_0; rw [show c17 9 = c 9 from hfc 9 (by decide +kernel), show c17 10 = c 10 from hfc 10 (by decide +kernel), show c17 13 = c 13 from hfc 13 (by decide +kernel), show i17 8 = i 8 from hfi 8 (by decide +kernel)] at h9; exact h9
            refine mld_11 hx hb hK hP (vp_in_iff.mpr (by have h9 : r18.toInt = r18.toInt := rfl; omega)) dX12_isPlaceBarred_62 (fun x19 ex19 => ?_)
            have rx19 : 0 ≤ x19.toInt ∧ x19.toInt ≤ 29 := by rw [ex19]; exact hI.2 11 _
            have gx19 : (c 11 (r18 : Int32).toNatClampNeg).toInt = x19.toInt := by rw [ex19, show c17 11 = c 11 from hfc 11 (by decide +kernel)]
            refine lv_istore (lv' := [(5, .int x19), (4, .int r1), (0, .ref o), (1, .int f), (2, .int w1), (3, .int w2)]) hx hb dX12_isPlaceBarred_63 hl (by decide +kernel) rfl (fun ls hl => ?_)
            have hfx : fP (c 9) (c 10) (c 11) (c 13) (i 8).toInt y3_5.toInt = x19.toInt := fP_at (by omega) hr18_0 (by omega) gx19
            have hrx := hrk.2 y3_5.toInt (by omega) (by omega) (by rw [hfx]; omega)
            rw [hfx] at hrx
            refine lv_goto (tgt := 25) hx hb dX12_isPlaceBarred_65 (by decide +kernel) ?_
            exact ih3 i17 q17 c17 d17 x19 hI (fr_w hfi (by decide +kernel)) (fr_w hfc (by decide +kernel)) (show 0 ≤ x19.toInt ∧ x19.toInt ≤ 29 from by omega) (show ((i17 15) : Int32).toInt + (rk x19.toInt : Int) ≤ 29 from by omega) (show Ch (fP (c 9) (c 10) (c 11) (c 13) (i 8).toInt) w2.toInt w1.toInt ↔ Ch (fP (c 9) (c 10) (c 11) (c 13) (i 8).toInt) x19.toInt w1.toInt from hz3_1.trans (by rw [Ch_nx (f := fP (c 9) (c 10) (c 11) (c 13) (i 8).toInt) (x := y3_5.toInt) (by omega), hfx])) (by omega) _ _ _ hP hD hS (lv_sub hl [0, 1, 2, 3, 4, 5] rfl)
    exact lp3 _ i q c d w2 hI (fr_w hfi (by decide +kernel)) (fr_w hfc (by decide +kernel)) (show 0 ≤ w2.toInt ∧ w2.toInt ≤ 29 from by omega) (show ((i 15) : Int32).toInt + (rk w2.toInt : Int) ≤ 29 from by omega) (show Ch (fP (c 9) (c 10) (c 11) (c 13) (i 8).toInt) w2.toInt w1.toInt ↔ Ch (fP (c 9) (c 10) (c 11) (c 13) (i 8).toInt) w2.toInt w1.toInt from Iff.rfl) (Nat.lt_succ_self _) _ _ _ hP hD hS (lv_sub hl [0, 1, 2, 3, 4, 5] rfl)
  · have f2 := mt (ti_eq (a := r1.toInt) (b := (-9)) rfl (by decide +kernel)).mpr c2
    refine lv_aload_n hx hb dX12_isPlaceBarred_14 rfl (lv_at hl 1 rfl) ?_
    refine lv_iload hx hb dX12_isPlaceBarred_15 (lv_at hl 0 rfl) ?_
    have rb15_i : 0 ≤ (i 15).toInt ∧ (i 15).toInt ≤ 200 := hI.1 15
    refine al_callv (va_runV (As := [.int r1]) (rest := []) ⟨hx, hb, hml, hown, hts⟩ (s_X12_clashes l D H.size o a t i q c d r1 hI (show 0 ≤ r1.toInt ∧ r1.toInt ≤ 199 from by omega) (show ((i 15) : Int32).toInt ≤ 199 from by omega)) (cwV 1 hts gm_X12_isPlaceBarred_X12_clashes rfl rfl rfl (by decide +kernel) ⟨Nat.le_of_ble_eq_true rfl, Nat.le_of_ble_eq_true rfl⟩) (pB_V hK hP hD (ci := 12) (q0 := 0) rfl rfl) rfl rfl hl.1 rfl (lv_room (Nat.le_of_ble_eq_true rfl)) dX12_isPlaceBarred_17 ⟨Nat.le_of_ble_eq_true rfl, Nat.le_of_ble_eq_true rfl⟩) hS hA hP hD (fun u20 H locs hw20 hP hD hS => ?_)
    obtain ⟨i20, q20, c20, d20⟩ := u20
    have hw20 : True ∧ mInv i20 c20 ∧ (∀ k, k ∉ ([15] : List Nat) → i20 k = i k) ∧ (∀ k, k ∉ ([14] : List Nat) → c20 k = c k) ∧ ((i20 15).toInt = (i 15).toInt + 1) := hw20
    obtain ⟨hw20, hI, hei20, hec20, hxp20_0⟩ := hw20
    have hxp20_0 : (i20 15).toInt = (i 15).toInt + 1 := hxp20_0
    have hfi : ∀ k, k ∉ ([15] : List Nat) → i20 k = i k := fr_z hfi hei20 (by decide +kernel) (by decide +kernel)
    have hfc : ∀ k, k ∉ ([14] : List Nat) → c20 k = c k := fr_z hfc hec20 (by decide +kernel) (by decide +kernel)
    have hP : va_P D vwCl (mW o a t i20 q20 c20 d20) H := hP
    have hD : va_D A (mW o a t i20 q20 c20 d20) := hD
    refine lv_iconst (v := 1) hx hb dX12_isPlaceBarred_20 (by decide +kernel) ?_
    exact rw_zret (i20, q20, c20, d20) hx hb hr hlocks hS (hK.sub (tys' := []) [] rfl) hP hD rfl dX12_isPlaceBarred_21 ⟨⟨(show 0 ≤ (1 : Int32).toInt ∧ (1 : Int32).toInt ≤ 1 from by decide +kernel), (show Im ((1 : Int32).toInt = 0) (pL (c 9) (c 10) (c 13) (i 8).toInt w1.toInt = -9 ∧ ¬ Ch (fP (c 9) (c 10) (c 11) (c 13) (i 8).toInt) w2.toInt w1.toInt) from fun h9 => absurd h9 (by decide +kernel))⟩, hI, fr_w hfi (by decide +kernel), fr_w hfc (by decide +kernel)⟩

def wm_X12_unsay : List Cond := .code yX12_unsay cX12_unsay 2 (some .int) :: (([.fieldLink RX12 202 "TalePlayModel" "sentences" "I", .methodLink RX12 166 yX12_in, .static yX12_in, .initialized RX12, .code yX12_in cX12_in 6 (some .boolean), .fieldLink RX12 37 "TalePlayModel" "isSaid" "[Z", .methodLink RX12 172 yX12_endTale, .instanceMethod yX12_endTale, .selects RX12 yX12_endTale yX12_endTale, .code yX12_endTale cX12_endTale 1 none, .fieldLink RX12 155 "TalePlayModel" "player" "I", .fieldLink RX12 291 "TalePlayModel" "turns" "I", .methodLink RX12 248 yX12_saidMany, .instanceMethod yX12_saidMany, .selects RX12 yX12_saidMany yX12_saidMany, .code yX12_saidMany cX12_saidMany 3 (some .int)] : List Cond) ++ wsX120)
set_option maxRecDepth 20000 in
theorem gm_X12_unsay_X12_in : GoodIn wm_X12_unsay (va_wsS RX12 166 yX12_in wm_X12_in) := goodIn_w (List.forall_mem_append.mpr ⟨List.forall_mem_cons.mpr ⟨List.mem_cons_of_mem _ (List.mem_append_left _ (List.mem_of_getElem? (i := 1) rfl)), List.forall_mem_cons.mpr ⟨List.mem_cons_of_mem _ (List.mem_append_left _ (List.mem_of_getElem? (i := 2) rfl)), List.forall_mem_cons.mpr ⟨List.mem_cons_of_mem _ (List.mem_append_left _ (List.mem_of_getElem? (i := 3) rfl)), (fun _ h => absurd h List.not_mem_nil)⟩⟩⟩, List.forall_mem_cons.mpr ⟨List.mem_cons_of_mem _ (List.mem_append_left _ (List.mem_of_getElem? (i := 4) rfl)), (fun _ h => absurd h List.not_mem_nil)⟩⟩) (by decide +kernel)
set_option maxRecDepth 20000 in
theorem gm_X12_unsay_X12_endTale : GoodIn wm_X12_unsay (wsV RX12 172 RX12 yX12_endTale wm_X12_endTale) := goodIn_w (List.forall_mem_append.mpr ⟨List.forall_mem_cons.mpr ⟨List.mem_cons_of_mem _ (List.mem_append_left _ (List.mem_of_getElem? (i := 6) rfl)), List.forall_mem_cons.mpr ⟨List.mem_cons_of_mem _ (List.mem_append_left _ (List.mem_of_getElem? (i := 7) rfl)), List.forall_mem_cons.mpr ⟨List.mem_cons_of_mem _ (List.mem_append_left _ (List.mem_of_getElem? (i := 8) rfl)), List.forall_mem_cons.mpr ⟨List.mem_cons_of_mem _ (List.mem_append_left _ (List.mem_of_getElem? (i := 3) rfl)), (fun _ h => absurd h List.not_mem_nil)⟩⟩⟩⟩, List.forall_mem_cons.mpr ⟨List.mem_cons_of_mem _ (List.mem_append_left _ (List.mem_of_getElem? (i := 9) rfl)), List.forall_mem_append.mpr ⟨List.forall_mem_cons.mpr ⟨List.mem_cons_of_mem _ (List.mem_append_left _ (List.mem_of_getElem? (i := 10) rfl)), List.forall_mem_cons.mpr ⟨List.mem_cons_of_mem _ (List.mem_append_left _ (List.mem_of_getElem? (i := 11) rfl)), (fun _ h => absurd h List.not_mem_nil)⟩⟩, (fun _ h => List.mem_cons_of_mem _ (List.mem_append_right _ h))⟩⟩⟩) (by decide +kernel)
set_option maxRecDepth 20000 in
theorem gm_X12_unsay_X12_saidMany : GoodIn wm_X12_unsay (wsV RX12 248 RX12 yX12_saidMany wm_X12_saidMany) := goodIn_w (List.forall_mem_append.mpr ⟨List.forall_mem_cons.mpr ⟨List.mem_cons_of_mem _ (List.mem_append_left _ (List.mem_of_getElem? (i := 12) rfl)), List.forall_mem_cons.mpr ⟨List.mem_cons_of_mem _ (List.mem_append_left _ (List.mem_of_getElem? (i := 13) rfl)), List.forall_mem_cons.mpr ⟨List.mem_cons_of_mem _ (List.mem_append_left _ (List.mem_of_getElem? (i := 14) rfl)), List.forall_mem_cons.mpr ⟨List.mem_cons_of_mem _ (List.mem_append_left _ (List.mem_of_getElem? (i := 3) rfl)), (fun _ h => absurd h List.not_mem_nil)⟩⟩⟩⟩, List.forall_mem_cons.mpr ⟨List.mem_cons_of_mem _ (List.mem_append_left _ (List.mem_of_getElem? (i := 15) rfl)), List.forall_mem_append.mpr ⟨List.forall_mem_cons.mpr ⟨List.mem_cons_of_mem _ (List.mem_append_left _ (List.mem_of_getElem? (i := 0) rfl)), List.forall_mem_cons.mpr ⟨List.mem_cons_of_mem _ (List.mem_append_left _ (List.mem_of_getElem? (i := 5) rfl)), (fun _ h => absurd h List.not_mem_nil)⟩⟩, (fun _ h => List.mem_cons_of_mem _ (List.mem_append_right _ h))⟩⟩⟩) (by decide +kernel)
set_option maxHeartbeats 4000000 in
set_option maxRecDepth 100000 in
theorem s_X12_unsay (l : Launch) (D : va_G) (sz : Nat) (o : Nat) (a : Nat → Nat) (t : Nat → ClassId) (i : Nat → Int32) (q : Int64) (c : Nat → Nat → Int32) (d : Nat → Nat → Int64) (s1 : Int32) (hI : mInv i c) (hs_S : SJ (c 3) (c 6) (c 9) (c 10) (c 11) (c 13) (i 2).toInt (i 5).toInt (i 8).toInt) (hs_J : TJ (c 3) (c 6) (c 23) (c 24) (c 29) (c 30) (i 5).toInt (i 22).toInt (i 27).toInt) : Met l yX12_unsay wm_X12_unsay ({ frames := 1, cells := 0, slots := 0, locals := 25 }) (va_Pc [.ref o, .int s1] (pB D sz (mW o a t i q c d) (mT t))) (va_Qi (fun (r : Int32) (u : MS) => True ∧ mInv u.1 u.2.2.1 ∧ (∀ k, k ∉ ([22, 27] : List Nat) → u.1 k = i k) ∧ (∀ k, k ∉ ([13] : List Nat) → u.2.2.1 k = c k) ∧ (SJ (u.2.2.1 3) (u.2.2.1 6) (u.2.2.1 9) (u.2.2.1 10) (u.2.2.1 11) (u.2.2.1 13) (u.1 2).toInt (u.1 5).toInt (u.1 8).toInt) ∧ (TJ (u.2.2.1 3) (u.2.2.1 6) (u.2.2.1 23) (u.2.2.1 24) (u.2.2.1 29) (u.2.2.1 30) (u.1 5).toInt (u.1 22).toInt (u.1 27).toInt)) (oC D (va_A (mW o a t i q c d) sz) (fun u : MS => mW o a t u.1 u.2.1 u.2.2.1 u.2.2.2) (fun _ => [])) (va_A (mW o a t i q c d) sz)) 0 0 (va_A (mW o a t i q c d) sz) := by
  refine Met.ofW (cc := cX12_unsay) (maxL := 2) (ret := (some .int)) (by decide +kernel) rfl ?_
  intro p e s m args below meth cd s₁ B hml hv
  obtain ⟨rfl, hsz, hP, hK, hD0⟩ := hv
  have hx := B.exec
  have hb := B.bytes
  have hr := B.returns
  have hts := atoms_spec (ws := wm_X12_unsay) B.pre
  have hown : s.vm.findClass RX12 = some m.cls := findClass_of_methodNamed B.named
  have hlocks := B.notSynchronized
  subst hsz
  have hD := hD0.self (sz := s.heap.size)
  generalize hAe : va_A (mW o a t i q c d) s.heap.size = A at hD ⊢
  have hA : ∀ q : Nat, s.heap.size ≤ q → A q := fun q h => by rw [← hAe]; exact Or.inr h
  have hS : va_S A s.heap s.heap [] := va_S.rf
  have hfi : ∀ k, k ∉ ([] : List Nat) → i k = i k := fun _ _ => rfl
  have hfc : ∀ k, k ∉ ([] : List Nat) → c k = c k := fun _ _ => rfl
  have hl := lv_entry ([.ref o, .int s1]) (n := 2) (Nat.le_of_ble_eq_true rfl)
  rw [lg_entry_eq]
  generalize (lg_sl ([.ref o, .int s1]) ++ List.replicate (2 - (lg_sl ([.ref o, .int s1])).length) Slot.unset).toArray = ls at hl ⊢
  have hl : lv_has ls 2 [(0, .ref o), (1, .int s1)] := hl
  have hI0 := hI
  refine lv_iload_n hx hb dX12_unsay_0 rfl (lv_at hl 1 rfl) ?_
  refine lv_i2l (v := s1.toInt64) hx hb dX12_unsay_1 rfl ?_
  refine lv_lconst (v := 0) hx hb dX12_unsay_2 (by decide +kernel) ?_
  refine lv_aload_n hx hb dX12_unsay_3 rfl (lv_at hl 0 rfl) ?_
  refine mget_8 (v := (i 8)) rfl hx hb hts (fun _ h => List.mem_cons_of_mem _ (List.mem_append_right _ h)) hown hK hP (hts (.fieldLink RX12 202 "TalePlayModel" "sentences" "I") (List.mem_cons_of_mem _ (List.mem_append_left _ (List.mem_of_getElem? (i := 0) rfl)))) dX12_unsay_4 ?_
  have rb8_i : 0 ≤ (i 8).toInt ∧ (i 8).toInt ≤ 200 := hI.1 8
  refine lv_iconst (v := 1) hx hb dX12_unsay_7 (by decide +kernel) ?_
  refine lv_isub hx hb dX12_unsay_8 ?_
  refine lv_topi (fun x1 ex1 => ?_)
  have tx1 := ti_sub (a := (i 8).toInt) (b := 1) ex1 rfl (by decide +kernel) (by omega) (by omega)
  refine lv_i2l (v := x1.toInt64) hx hb dX12_unsay_9 rfl ?_
  have hPc := hP.sub (ws' := []) [] rfl
  have hKc := hK.sub (tys' := []) [] rfl
  refine ro_calli (va_runS (As := [.long s1.toInt64, .long 0, .long x1.toInt64]) (rest := []) ⟨hx, hb, hml, hown, hts⟩ (c_X12_in l D s.heap.size s1.toInt64 0 x1.toInt64 s1.toInt 0 ((i 8).toInt - 1) ((Int32.toInt_toInt64 s1).trans rfl) (by decide +kernel) ((Int32.toInt_toInt64 x1).trans tx1)) (va_cwS 3 hts gm_X12_unsay_X12_in rfl rfl rfl (by decide +kernel) ⟨Nat.le_of_ble_eq_true rfl, Nat.le_of_ble_eq_true rfl⟩) (pA_S hKc hPc) rfl rfl hl.1 rfl (lv_room (Nat.le_of_ble_eq_true rfl)) dX12_unsay_10 ⟨Nat.le_of_ble_eq_true rfl, Nat.le_of_ble_eq_true rfl⟩) hS hA hP (fun r2 u2 H locs hw2 hP hS => ?_)
  have hw2 : r2 = if (0 ≤ s1.toInt ∧ s1.toInt ≤ ((i 8).toInt - 1)) then 1 else 0 := hw2
  refine lv_if_eq (tgt := 25) hx hb dX12_unsay_13 (by decide +kernel) (fun c3 => ?_) (fun c3 => ?_)
  · have f3 := fl_f hw2 c3
    refine lv_iconst (v := (-1)) hx hb dX12_unsay_25 (by decide +kernel) ?_
    exact rw_iret (i, q, c, d) hx hb hr hlocks hS (hK.sub (tys' := []) [] rfl) hP hD dX12_unsay_26 ⟨trivial, hI, fr_w hfi (by decide +kernel), fr_w hfc (by decide +kernel), (show SJ (c 3) (c 6) (c 9) (c 10) (c 11) (c 13) ((i 2) : Int32).toInt ((i 5) : Int32).toInt ((i 8) : Int32).toInt from hs_S), (show TJ (c 3) (c 6) (c 23) (c 24) (c 29) (c 30) ((i 5) : Int32).toInt ((i 22) : Int32).toInt ((i 27) : Int32).toInt from hs_J)⟩
  · have f3 := fl_t hw2 c3
    refine lv_aload_n hx hb dX12_unsay_16 rfl (lv_at hl 0 rfl) ?_
    refine mget_13 hx hb hts (fun _ h => List.mem_cons_of_mem _ (List.mem_append_right _ h)) hown hK hP (hts (.fieldLink RX12 37 "TalePlayModel" "isSaid" "[Z") (List.mem_cons_of_mem _ (List.mem_append_left _ (List.mem_of_getElem? (i := 5) rfl)))) dX12_unsay_17 ?_
    refine lv_iload_n hx hb dX12_unsay_20 rfl (lv_at hl 1 rfl) ?_
    refine mld_13 hx hb hK hP (vp_in_iff.mpr (by have h9 : s1.toInt = s1.toInt := rfl; omega)) dX12_unsay_21 (fun x4 ex4 => ?_)
    have rx4 : 0 ≤ x4.toInt ∧ x4.toInt ≤ 1 := by rw [ex4]; exact hI.2 13 _
    refine lv_if_ne (tgt := 27) hx hb dX12_unsay_22 (by decide +kernel) (fun c5 => ?_) (fun c5 => ?_)
    · have f5 := mt (ti_eq (a := x4.toInt) (b := 0) rfl (by decide +kernel)).mpr c5
      refine lv_aload_n hx hb dX12_unsay_27 rfl (lv_at hl 0 rfl) ?_
      refine mget_13 hx hb hts (fun _ h => List.mem_cons_of_mem _ (List.mem_append_right _ h)) hown hK hP (hts (.fieldLink RX12 37 "TalePlayModel" "isSaid" "[Z") (List.mem_cons_of_mem _ (List.mem_append_left _ (List.mem_of_getElem? (i := 5) rfl)))) dX12_unsay_28 ?_
      refine lv_iload_n hx hb dX12_unsay_31 rfl (lv_at hl 1 rfl) ?_
      refine lv_iconst (v := 0) hx hb dX12_unsay_32 (by decide +kernel) ?_
      refine mst_13 hx hb hK hP hD hS (vp_in_iff.mpr (by have h9 : s1.toInt = s1.toInt := rfl; omega)) (nb_z (show 0 ≤ (0 : Int32).toInt ∧ (0 : Int32).toInt ≤ 1 from by decide +kernel)) dX12_unsay_33 (fun H locs hP hD hS => ?_)
      have hI := mInv_c hI (k := 13) (j := (s1 : Int32).toNatClampNeg) (x := 0) (show 0 ≤ (0 : Int32).toInt ∧ (0 : Int32).toInt ≤ 1 from by decide +kernel)
      have hfc : ∀ k, k ∉ ([13] : List Nat) → (updA c 13 (s1 : Int32).toNatClampNeg 0) k = c k := fr_cz hfc (by decide +kernel) (by decide +kernel)
      refine lv_aload_n hx hb dX12_unsay_34 rfl (lv_at hl 0 rfl) ?_
      refine al_callv (va_runV (As := []) (rest := []) ⟨hx, hb, hml, hown, hts⟩ (s_X12_endTale l D H.size o a t i q (updA c 13 (s1 : Int32).toNatClampNeg 0) d  hI ) (cwV 0 hts gm_X12_unsay_X12_endTale rfl rfl rfl (by decide +kernel) ⟨Nat.le_of_ble_eq_true rfl, Nat.le_of_ble_eq_true rfl⟩) (pB_V hK hP hD (ci := 12) (q0 := 0) rfl rfl) rfl rfl hl.1 rfl (lv_room (Nat.le_of_ble_eq_true rfl)) dX12_unsay_35 ⟨Nat.le_of_ble_eq_true rfl, Nat.le_of_ble_eq_true rfl⟩) hS hA hP hD (fun u6 H locs hw6 hP hD hS => ?_)
      obtain ⟨i6, q6, c6, d6⟩ := u6
      have hw6 : True ∧ mInv i6 c6 ∧ (∀ k, k ∉ ([22, 27] : List Nat) → i6 k = i k) ∧ (∀ k, k ∉ ([] : List Nat) → c6 k = (updA c 13 (s1 : Int32).toNatClampNeg 0) k) ∧ ((i6 22).toInt = -9) ∧ ((i6 27).toInt = 0) := hw6
      obtain ⟨hw6, hI, hei6, hec6, hxp6_0, hxp6_1⟩ := hw6
      have hxp6_0 : (i6 22).toInt = -9 := hxp6_0
      have hxp6_1 : (i6 27).toInt = 0 := hxp6_1
      have hfi : ∀ k, k ∉ ([22, 27] : List Nat) → i6 k = i k := fr_z hfi hei6 (by decide +kernel) (by decide +kernel)
      have hfc : ∀ k, k ∉ ([13] : List Nat) → c6 k = c k := fr_z hfc hec6 (by decide +kernel) (by decide +kernel)
      have hP : va_P D vwCl (mW o a t i6 q6 c6 d6) H := hP
      have hD : va_D A (mW o a t i6 q6 c6 d6) := hD
      refine lv_aload_n hx hb dX12_unsay_38 rfl (lv_at hl 0 rfl) ?_
      refine ro_calli (va_runV (As := []) (rest := []) ⟨hx, hb, hml, hown, hts⟩ (s_X12_saidMany l D H.size o a t i6 q6 c6 d6  hI ) (cwV 0 hts gm_X12_unsay_X12_saidMany rfl rfl rfl (by decide +kernel) ⟨Nat.le_of_ble_eq_true rfl, Nat.le_of_ble_eq_true rfl⟩) (pA_V hK hP (ci := 12) (q0 := 0) rfl rfl) rfl rfl hl.1 rfl (lv_room (Nat.le_of_ble_eq_true rfl)) dX12_unsay_39 ⟨Nat.le_of_ble_eq_true rfl, Nat.le_of_ble_eq_true rfl⟩) hS hA hP (fun r7 u7 H locs hw7 hP hS => ?_)
      have hw7 : (0 ≤ r7.toInt ∧ r7.toInt ≤ 200) := hw7
      exact rw_iret (i6, q6, c6, d6) hx hb hr hlocks hS (hK.sub (tys' := []) [] rfl) hP hD dX12_unsay_42 ⟨trivial, hI, fr_w hfi (by decide +kernel), fr_w hfc (by decide +kernel), (show SJ (c6 3) (c6 6) (c6 9) (c6 10) (c6 11) (c6 13) ((i6 2) : Int32).toInt ((i6 5) : Int32).toInt ((i6 8) : Int32).toInt from by rw [show c6 3 = (updA c 13 (s1 : Int32).toNatClampNeg 0) 3 from hec6 3 (by decide +kernel), show c6 6 = (updA c 13 (s1 : Int32).toNatClampNeg 0) 6 from hec6 6 (by decide +kernel), show c6 9 = (updA c 13 (s1 : Int32).toNatClampNeg 0) 9 from hec6 9 (by decide +kernel), show c6 10 = (updA c 13 (s1 : Int32).toNatClampNeg 0) 10 from hec6 10 (by decide +kernel), show c6 11 = (updA c 13 (s1 : Int32).toNatClampNeg 0) 11 from hec6 11 (by decide +kernel), show c6 13 = (updA c 13 (s1 : Int32).toNatClampNeg 0) 13 from hec6 13 (by decide +kernel), show i6 2 = i 2 from hei6 2 (by decide +kernel), show i6 5 = i 5 from hei6 5 (by decide +kernel), show i6 8 = i 8 from hei6 8 (by decide +kernel)]; show SJ (c 3) (c 6) (c 9) (c 10) (c 11) (upd (c 13) (s1 : Int32).toNatClampNeg 0) (i 2).toInt (i 5).toInt (i 8).toInt; exact SJ_un hs_S), (show TJ (c6 3) (c6 6) (c6 23) (c6 24) (c6 29) (c6 30) ((i6 5) : Int32).toInt ((i6 22) : Int32).toInt ((i6 27) : Int32).toInt from TJ_no hxp6_0)⟩
    · have f5 := (ti_eq (a := x4.toInt) (b := 0) rfl (by decide +kernel)).mp c5
      refine lv_iconst (v := (-1)) hx hb dX12_unsay_25 (by decide +kernel) ?_
      exact rw_iret (i, q, c, d) hx hb hr hlocks hS (hK.sub (tys' := []) [] rfl) hP hD dX12_unsay_26 ⟨trivial, hI, fr_w hfi (by decide +kernel), fr_w hfc (by decide +kernel), (show SJ (c 3) (c 6) (c 9) (c 10) (c 11) (c 13) ((i 2) : Int32).toInt ((i 5) : Int32).toInt ((i 8) : Int32).toInt from hs_S), (show TJ (c 3) (c 6) (c 23) (c 24) (c 29) (c 30) ((i 5) : Int32).toInt ((i 22) : Int32).toInt ((i 27) : Int32).toInt from hs_J)⟩

def wm_X12_standard : List Cond := .code yX12_standard cX12_standard 5 (some .int) :: (([.fieldLink RX12 151 "TalePlayModel" "kinds" "I", .methodLink RX12 166 yX12_in, .static yX12_in, .initialized RX12, .code yX12_in cX12_in 6 (some .boolean), .constantLong RX12 170 (5), .fieldLink RX12 16 "TalePlayModel" "defaults" "[I", .methodLink RX12 172 yX12_endTale, .instanceMethod yX12_endTale, .selects RX12 yX12_endTale yX12_endTale, .code yX12_endTale cX12_endTale 1 none, .fieldLink RX12 155 "TalePlayModel" "player" "I", .fieldLink RX12 291 "TalePlayModel" "turns" "I"] : List Cond) ++ wsX120)
set_option maxRecDepth 20000 in
theorem gm_X12_standard_X12_in : GoodIn wm_X12_standard (va_wsS RX12 166 yX12_in wm_X12_in) := goodIn_w (List.forall_mem_append.mpr ⟨List.forall_mem_cons.mpr ⟨List.mem_cons_of_mem _ (List.mem_append_left _ (List.mem_of_getElem? (i := 1) rfl)), List.forall_mem_cons.mpr ⟨List.mem_cons_of_mem _ (List.mem_append_left _ (List.mem_of_getElem? (i := 2) rfl)), List.forall_mem_cons.mpr ⟨List.mem_cons_of_mem _ (List.mem_append_left _ (List.mem_of_getElem? (i := 3) rfl)), (fun _ h => absurd h List.not_mem_nil)⟩⟩⟩, List.forall_mem_cons.mpr ⟨List.mem_cons_of_mem _ (List.mem_append_left _ (List.mem_of_getElem? (i := 4) rfl)), (fun _ h => absurd h List.not_mem_nil)⟩⟩) (by decide +kernel)
set_option maxRecDepth 20000 in
theorem gm_X12_standard_X12_endTale : GoodIn wm_X12_standard (wsV RX12 172 RX12 yX12_endTale wm_X12_endTale) := goodIn_w (List.forall_mem_append.mpr ⟨List.forall_mem_cons.mpr ⟨List.mem_cons_of_mem _ (List.mem_append_left _ (List.mem_of_getElem? (i := 7) rfl)), List.forall_mem_cons.mpr ⟨List.mem_cons_of_mem _ (List.mem_append_left _ (List.mem_of_getElem? (i := 8) rfl)), List.forall_mem_cons.mpr ⟨List.mem_cons_of_mem _ (List.mem_append_left _ (List.mem_of_getElem? (i := 9) rfl)), List.forall_mem_cons.mpr ⟨List.mem_cons_of_mem _ (List.mem_append_left _ (List.mem_of_getElem? (i := 3) rfl)), (fun _ h => absurd h List.not_mem_nil)⟩⟩⟩⟩, List.forall_mem_cons.mpr ⟨List.mem_cons_of_mem _ (List.mem_append_left _ (List.mem_of_getElem? (i := 10) rfl)), List.forall_mem_append.mpr ⟨List.forall_mem_cons.mpr ⟨List.mem_cons_of_mem _ (List.mem_append_left _ (List.mem_of_getElem? (i := 11) rfl)), List.forall_mem_cons.mpr ⟨List.mem_cons_of_mem _ (List.mem_append_left _ (List.mem_of_getElem? (i := 12) rfl)), (fun _ h => absurd h List.not_mem_nil)⟩⟩, (fun _ h => List.mem_cons_of_mem _ (List.mem_append_right _ h))⟩⟩⟩) (by decide +kernel)
def wm_X12_make : List Cond := .code yX12_make cX12_make 3 (some .int) :: (([.fieldLink RX12 151 "TalePlayModel" "kinds" "I", .methodLink RX12 166 yX12_in, .static yX12_in, .initialized RX12, .code yX12_in cX12_in 6 (some .boolean), .constantLong RX12 175 (99), .fieldLink RX12 177 "TalePlayModel" "objects" "I", .fieldLink RX12 19 "TalePlayModel" "kindOf" "[I", .fieldLink RX12 22 "TalePlayModel" "sizeOf" "[I", .methodLink RX12 172 yX12_endTale, .instanceMethod yX12_endTale, .selects RX12 yX12_endTale yX12_endTale, .code yX12_endTale cX12_endTale 1 none, .fieldLink RX12 155 "TalePlayModel" "player" "I", .fieldLink RX12 291 "TalePlayModel" "turns" "I"] : List Cond) ++ wsX120)
set_option maxRecDepth 20000 in
theorem gm_X12_make_X12_in : GoodIn wm_X12_make (va_wsS RX12 166 yX12_in wm_X12_in) := goodIn_w (List.forall_mem_append.mpr ⟨List.forall_mem_cons.mpr ⟨List.mem_cons_of_mem _ (List.mem_append_left _ (List.mem_of_getElem? (i := 1) rfl)), List.forall_mem_cons.mpr ⟨List.mem_cons_of_mem _ (List.mem_append_left _ (List.mem_of_getElem? (i := 2) rfl)), List.forall_mem_cons.mpr ⟨List.mem_cons_of_mem _ (List.mem_append_left _ (List.mem_of_getElem? (i := 3) rfl)), (fun _ h => absurd h List.not_mem_nil)⟩⟩⟩, List.forall_mem_cons.mpr ⟨List.mem_cons_of_mem _ (List.mem_append_left _ (List.mem_of_getElem? (i := 4) rfl)), (fun _ h => absurd h List.not_mem_nil)⟩⟩) (by decide +kernel)
set_option maxRecDepth 20000 in
theorem gm_X12_make_X12_endTale : GoodIn wm_X12_make (wsV RX12 172 RX12 yX12_endTale wm_X12_endTale) := goodIn_w (List.forall_mem_append.mpr ⟨List.forall_mem_cons.mpr ⟨List.mem_cons_of_mem _ (List.mem_append_left _ (List.mem_of_getElem? (i := 9) rfl)), List.forall_mem_cons.mpr ⟨List.mem_cons_of_mem _ (List.mem_append_left _ (List.mem_of_getElem? (i := 10) rfl)), List.forall_mem_cons.mpr ⟨List.mem_cons_of_mem _ (List.mem_append_left _ (List.mem_of_getElem? (i := 11) rfl)), List.forall_mem_cons.mpr ⟨List.mem_cons_of_mem _ (List.mem_append_left _ (List.mem_of_getElem? (i := 3) rfl)), (fun _ h => absurd h List.not_mem_nil)⟩⟩⟩⟩, List.forall_mem_cons.mpr ⟨List.mem_cons_of_mem _ (List.mem_append_left _ (List.mem_of_getElem? (i := 12) rfl)), List.forall_mem_append.mpr ⟨List.forall_mem_cons.mpr ⟨List.mem_cons_of_mem _ (List.mem_append_left _ (List.mem_of_getElem? (i := 13) rfl)), List.forall_mem_cons.mpr ⟨List.mem_cons_of_mem _ (List.mem_append_left _ (List.mem_of_getElem? (i := 14) rfl)), (fun _ h => absurd h List.not_mem_nil)⟩⟩, (fun _ h => List.mem_cons_of_mem _ (List.mem_append_right _ h))⟩⟩⟩) (by decide +kernel)
def wm_X12_kind : List Cond := .code yX12_kind cX12_kind 2 (some .int) :: (([.fieldLink RX12 151 "TalePlayModel" "kinds" "I", .methodLink RX12 166 yX12_in, .static yX12_in, .initialized RX12, .code yX12_in cX12_in 6 (some .boolean), .fieldLink RX12 13 "TalePlayModel" "parentOf" "[I"] : List Cond) ++ wsX120)
set_option maxRecDepth 20000 in
theorem gm_X12_kind_X12_in : GoodIn wm_X12_kind (va_wsS RX12 166 yX12_in wm_X12_in) := goodIn_w (List.forall_mem_append.mpr ⟨List.forall_mem_cons.mpr ⟨List.mem_cons_of_mem _ (List.mem_append_left _ (List.mem_of_getElem? (i := 1) rfl)), List.forall_mem_cons.mpr ⟨List.mem_cons_of_mem _ (List.mem_append_left _ (List.mem_of_getElem? (i := 2) rfl)), List.forall_mem_cons.mpr ⟨List.mem_cons_of_mem _ (List.mem_append_left _ (List.mem_of_getElem? (i := 3) rfl)), (fun _ h => absurd h List.not_mem_nil)⟩⟩⟩, List.forall_mem_cons.mpr ⟨List.mem_cons_of_mem _ (List.mem_append_left _ (List.mem_of_getElem? (i := 4) rfl)), (fun _ h => absurd h List.not_mem_nil)⟩⟩) (by decide +kernel)
