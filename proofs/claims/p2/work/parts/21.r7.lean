def wm_X12_lay : List Cond := .code yX12_lay cX12_lay 4 none :: (([.fieldLink RX12 50 "TalePlayModel" "nForm" "[I", .fieldLink RX12 53 "TalePlayModel" "nAt" "[I"] : List Cond) ++ wsX120)
set_option maxHeartbeats 4000000 in
set_option maxRecDepth 100000 in
theorem s_X12_lay (l : Launch) (D : va_G) (sz : Nat) (o : Nat) (a : Nat → Nat) (t : Nat → ClassId) (i : Nat → Int32) (q : Int64) (c : Nat → Nat → Int32) (d : Nat → Nat → Int64) (w : Int32) (f : Int32) (w2 : Int32) (hI : mInv i c) (hw : 0 ≤ w.toInt ∧ w.toInt ≤ 29) (hf : f.toInt = -9 ∨ (0 ≤ f.toInt ∧ f.toInt ≤ 4)) (hw2 : w2.toInt = -9 ∨ (0 ≤ w2.toInt ∧ w2.toInt ≤ 29)) : Met l yX12_lay wm_X12_lay ({ frames := 0, cells := 0, slots := 0, locals := 0 }) (va_Pc [.ref o, .int w, .int f, .int w2] (pB D sz (mW o a t i q c d) (mT t))) (va_Qv (fun (u : MS) => True ∧ mInv u.1 u.2.2.1 ∧ (∀ k, k ∉ ([] : List Nat) → u.1 k = i k) ∧ (∀ k, k ∉ ([23, 24] : List Nat) → u.2.2.1 k = c k) ∧ ((u.2.2.1 23) = upd (c 23) w.toNatClampNeg f) ∧ ((u.2.2.1 24) = upd (c 24) w.toNatClampNeg w2)) (oC D (va_A (mW o a t i q c d) sz) (fun u : MS => mW o a t u.1 u.2.1 u.2.2.1 u.2.2.2) (fun _ => [])) (va_A (mW o a t i q c d) sz)) 0 0 (va_A (mW o a t i q c d) sz) := by
  refine Met.ofW (cc := cX12_lay) (maxL := 4) (ret := none) (by decide) rfl ?_
  intro p e s m args below meth cd s₁ B hml hv
  obtain ⟨rfl, hsz, hP, hK, hD0⟩ := hv
  have hx := B.exec
  have hb := B.bytes
  have hr := B.returns
  have hts := atoms_spec (ws := wm_X12_lay) B.pre
  have hown : s.vm.findClass RX12 = some m.cls := findClass_of_methodNamed B.named
  have hlocks := B.notSynchronized
  subst hsz
  have hD := hD0.self (sz := s.heap.size)
  generalize hAe : va_A (mW o a t i q c d) s.heap.size = A at hD ⊢
  have hA : ∀ q : Nat, s.heap.size ≤ q → A q := fun q h => by rw [← hAe]; exact Or.inr h
  have hS : va_S A s.heap s.heap [] := va_S.rf
  have hfi : ∀ k, k ∉ ([] : List Nat) → i k = i k := fun _ _ => rfl
  have hfc : ∀ k, k ∉ ([] : List Nat) → c k = c k := fun _ _ => rfl
  have hl := lv_entry ([.ref o, .int w, .int f, .int w2]) (n := 4) (Nat.le_of_ble_eq_true rfl)
  rw [lg_entry_eq]
  generalize (lg_sl ([.ref o, .int w, .int f, .int w2]) ++ List.replicate (4 - (lg_sl ([.ref o, .int w, .int f, .int w2])).length) Slot.unset).toArray = ls at hl ⊢
  have hl : lv_has ls 4 [(0, .ref o), (1, .int w), (2, .int f), (3, .int w2)] := hl
  refine lv_aload_n hx hb dX12_lay_0 rfl (lv_at hl 0 rfl) ?_
  refine mget_23 hx hb hts (fun _ h => List.mem_cons_of_mem _ (List.mem_append_right _ h)) hown hK hP (hts (.fieldLink RX12 50 "TalePlayModel" "nForm" "[I") (by decide +kernel)) dX12_lay_1 ?_
  refine lv_iload_n hx hb dX12_lay_4 rfl (lv_at hl 1 rfl) ?_
  refine lv_iload_n hx hb dX12_lay_5 rfl (lv_at hl 2 rfl) ?_
  refine mst_23 hx hb hK hP hD hS (vp_in_iff.mpr (by have h9 : w.toInt = w.toInt := rfl; omega)) dX12_lay_6 (fun H locs hP hD hS => ?_)
  have hI := mInv_c hI (k := 23) (j := (w : Int32).toNatClampNeg) (x := f) (show (f : Int32).toInt = -9 ∨ (0 ≤ (f : Int32).toInt ∧ (f : Int32).toInt ≤ 4) from by omega)
  have hfc : ∀ k, k ∉ ([23] : List Nat) → (updA c 23 (w : Int32).toNatClampNeg f) k = c k := fr_cz hfc (by decide) (by decide)
  refine lv_aload_n hx hb dX12_lay_7 rfl (lv_at hl 0 rfl) ?_
  refine mget_24 hx hb hts (fun _ h => List.mem_cons_of_mem _ (List.mem_append_right _ h)) hown hK hP (hts (.fieldLink RX12 53 "TalePlayModel" "nAt" "[I") (by decide +kernel)) dX12_lay_8 ?_
  refine lv_iload_n hx hb dX12_lay_11 rfl (lv_at hl 1 rfl) ?_
  refine lv_iload_n hx hb dX12_lay_12 rfl (lv_at hl 3 rfl) ?_
  refine mst_24 hx hb hK hP hD hS (vp_in_iff.mpr (by have h9 : w.toInt = w.toInt := rfl; omega)) dX12_lay_13 (fun H locs hP hD hS => ?_)
  have hI := mInv_c hI (k := 24) (j := (w : Int32).toNatClampNeg) (x := w2) (show (w2 : Int32).toInt = -9 ∨ (0 ≤ (w2 : Int32).toInt ∧ (w2 : Int32).toInt ≤ 29) from by omega)
  have hfc : ∀ k, k ∉ ([23, 24] : List Nat) → (updA (updA c 23 (w : Int32).toNatClampNeg f) 24 (w : Int32).toNatClampNeg w2) k = c k := fr_cz hfc (by decide) (by decide)
  exact rw_vret (i, q, (updA (updA c 23 (w : Int32).toNatClampNeg f) 24 (w : Int32).toNatClampNeg w2), d) hx hb hr hlocks hS (hK.sub (tys' := []) [] rfl) hP hD dX12_lay_14 ⟨trivial, hI, fr_w hfi (by decide), fr_w hfc (by decide), (show ((updA (updA c 23 (w : Int32).toNatClampNeg f) 24 (w : Int32).toNatClampNeg w2) 23) = upd (c 23) w.toNatClampNeg f from rfl), (show ((updA (updA c 23 (w : Int32).toNatClampNeg f) 24 (w : Int32).toNatClampNeg w2) 24) = upd (c 24) w.toNatClampNeg w2 from rfl)⟩

def wm_X12_whyNot : List Cond := .code yX12_whyNot cX12_whyNot 4 (some .int) :: (([.methodLink RX12 361 yX12_whyNotGo, .instanceMethod yX12_whyNotGo, .selects RX12 yX12_whyNotGo yX12_whyNotGo, .initialized RX12, .code yX12_whyNotGo cX12_whyNotGo 2 (some .int), .methodLink RX12 348 yX12_isInRoom, .instanceMethod yX12_isInRoom, .selects RX12 yX12_isInRoom yX12_isInRoom, .code yX12_isInRoom cX12_isInRoom 1 (some .boolean), .fieldLink RX12 50 "TalePlayModel" "nForm" "[I", .fieldLink RX12 155 "TalePlayModel" "player" "I", .fieldLink RX12 101 "TalePlayModel" "isRoom" "[Z", .fieldLink RX12 53 "TalePlayModel" "nAt" "[I", .methodLink RX12 281 yX12_findExit, .instanceMethod yX12_findExit, .selects RX12 yX12_findExit yX12_findExit, .code yX12_findExit cX12_findExit 6 (some .boolean), .fieldLink RX12 263 "TalePlayModel" "leads" "I", .fieldLink RX12 266 "TalePlayModel" "byDoor" "I", .fieldLink RX12 269 "TalePlayModel" "bySentence" "I", .fieldLink RX12 272 "TalePlayModel" "isImplied" "Z", .fieldLink RX12 202 "TalePlayModel" "sentences" "I", .fieldLink RX12 28 "TalePlayModel" "left" "[I", .fieldLink RX12 31 "TalePlayModel" "middle" "[I", .methodLink RX12 184 yX12_isOf, .instanceMethod yX12_isOf, .selects RX12 yX12_isOf yX12_isOf, .code yX12_isOf cX12_isOf 4 (some .boolean), .fieldLink RX12 19 "TalePlayModel" "kindOf" "[I", .fieldLink RX12 13 "TalePlayModel" "parentOf" "[I", .methodLink RX12 276 yX12_otherSide, .instanceMethod yX12_otherSide, .selects RX12 yX12_otherSide yX12_otherSide, .code yX12_otherSide cX12_otherSide 4 (some .int), .fieldLink RX12 37 "TalePlayModel" "isSaid" "[Z", .fieldLink RX12 25 "TalePlayModel" "form" "[I", .fieldLink RX12 34 "TalePlayModel" "right" "[I", .fieldLink RX12 56 "TalePlayModel" "nOpen" "[Z", .methodLink RX12 364 yX12_whyNotTake, .instanceMethod yX12_whyNotTake, .selects RX12 yX12_whyNotTake yX12_whyNotTake, .code yX12_whyNotTake cX12_whyNotTake 4 (some .int), .fieldLink RX12 86 "TalePlayModel" "seen" "[Z", .methodLink RX12 352 yX12_isUpFrom, .instanceMethod yX12_isUpFrom, .selects RX12 yX12_isUpFrom yX12_isUpFrom, .code yX12_isUpFrom cX12_isUpFrom 4 (some .boolean), .methodLink RX12 355 yX12_holds, .instanceMethod yX12_holds, .selects RX12 yX12_holds yX12_holds, .code yX12_holds cX12_holds 2 (some .boolean), .methodLink RX12 194 yX12_isGoods, .instanceMethod yX12_isGoods, .selects RX12 yX12_isGoods yX12_isGoods, .code yX12_isGoods cX12_isGoods 2 (some .boolean), .methodLink RX12 188 yX12_isMovable, .instanceMethod yX12_isMovable, .selects RX12 yX12_isMovable yX12_isMovable, .code yX12_isMovable cX12_isMovable 2 (some .boolean), .methodLink RX12 256 yX12_saidFlag, .instanceMethod yX12_saidFlag, .selects RX12 yX12_saidFlag yX12_saidFlag, .code yX12_saidFlag cX12_saidFlag 4 (some .int), .methodLink RX12 216 yX12_saidSo, .instanceMethod yX12_saidSo, .selects RX12 yX12_saidSo yX12_saidSo, .code yX12_saidSo cX12_saidSo 6 (some .int), .fieldLink RX12 16 "TalePlayModel" "defaults" "[I", .fieldLink RX12 89 "TalePlayModel" "reached" "[Z", .methodLink RX12 315 yX12_bulkOf, .instanceMethod yX12_bulkOf, .selects RX12 yX12_bulkOf yX12_bulkOf, .code yX12_bulkOf cX12_bulkOf 6 (some .int), .methodLink RX12 306 yX12_beginBulk, .instanceMethod yX12_beginBulk, .selects RX12 yX12_beginBulk yX12_beginBulk, .code yX12_beginBulk cX12_beginBulk 3 (some .int), .fieldLink RX12 80 "TalePlayModel" "pile" "[I", .fieldLink RX12 83 "TalePlayModel" "nextIn" "[I", .methodLink RX12 300 yX12_body, .instanceMethod yX12_body, .selects RX12 yX12_body yX12_body, .code yX12_body cX12_body 2 none, .fieldLink RX12 294 "TalePlayModel" "traces" "Z", .fieldLink RX12 297 "TalePlayModel" "traced" "I", .fieldLink RX12 77 "TalePlayModel" "trace" "[I", .fieldLink RX12 22 "TalePlayModel" "sizeOf" "[I", .fieldLink RX12 177 "TalePlayModel" "objects" "I", .methodLink RX12 309 yX12_formNow, .instanceMethod yX12_formNow, .selects RX12 yX12_formNow yX12_formNow, .code yX12_formNow cX12_formNow 3 (some .int), .methodLink RX12 208 yX12_placing, .instanceMethod yX12_placing, .selects RX12 yX12_placing yX12_placing, .code yX12_placing cX12_placing 3 (some .int), .methodLink RX12 312 yX12_atNow, .instanceMethod yX12_atNow, .selects RX12 yX12_atNow yX12_atNow, .code yX12_atNow cX12_atNow 3 (some .int), .fieldLink RX12 303 "TalePlayModel" "isNought" "Z", .methodLink RX12 367 yX12_whyNotPut, .instanceMethod yX12_whyNotPut, .selects RX12 yX12_whyNotPut yX12_whyNotPut, .code yX12_whyNotPut cX12_whyNotPut 4 (some .int), .methodLink RX12 358 yX12_lying, .instanceMethod yX12_lying, .selects RX12 yX12_lying yX12_lying, .code yX12_lying cX12_lying 5 (some .int), .fieldLink RX12 98 "TalePlayModel" "isBox" "[Z", .methodLink RX12 371 yX12_whyNotTurn, .instanceMethod yX12_whyNotTurn, .selects RX12 yX12_whyNotTurn yX12_whyNotTurn, .code yX12_whyNotTurn cX12_whyNotTurn 4 (some .int), .methodLink RX12 191 yX12_isShutter, .instanceMethod yX12_isShutter, .selects RX12 yX12_isShutter yX12_isShutter, .code yX12_isShutter cX12_isShutter 2 (some .boolean), .methodLink RX12 260 yX12_keyOf, .instanceMethod yX12_keyOf, .selects RX12 yX12_keyOf yX12_keyOf, .code yX12_keyOf cX12_keyOf 3 (some .int), .fieldLink RX12 59 "TalePlayModel" "nLocked" "[Z", .methodLink RX12 375 yX12_whyNotEnter, .instanceMethod yX12_whyNotEnter, .selects RX12 yX12_whyNotEnter yX12_whyNotEnter, .code yX12_whyNotEnter cX12_whyNotEnter 2 (some .int), .methodLink RX12 378 yX12_whyNotLeave, .instanceMethod yX12_whyNotLeave, .selects RX12 yX12_whyNotLeave yX12_whyNotLeave, .code yX12_whyNotLeave cX12_whyNotLeave 2 (some .int)] : List Cond) ++ wsX120)
set_option maxRecDepth 20000 in
theorem gm_X12_whyNot_X12_whyNotGo : GoodIn wm_X12_whyNot (wsV RX12 361 RX12 yX12_whyNotGo wm_X12_whyNotGo) := goodIn_app (goodIn_of _ (by decide +kernel)) (goodIn_r _ [5, 6, 7, 8, 4, 9, 10, 11, 12, 13, 14, 15, 16, 17, 18, 19, 20, 21, 22, 23, 24, 25, 26, 27, 28, 29, 30, 31, 32, 33, 34, 35, 36, 37, 38, 132, 133, 134, 135, 136, 137, 138, 139, 140, 141, 142, 143, 144, 145, 146, 147, 148, 149, 150, 151, 152, 153, 154, 155, 156, 157, 158, 159, 160, 161, 162, 163, 164, 165, 166, 167, 168, 169, 170, 171, 172, 173, 174, 175, 176, 177, 178, 179, 180, 181, 182, 183, 184, 185, 186, 187, 188, 189, 190, 191, 192, 193, 194, 195, 196, 197, 198, 199, 200] (by decide +kernel) (by decide +kernel))
set_option maxRecDepth 20000 in
theorem gm_X12_whyNot_X12_whyNotTake : GoodIn wm_X12_whyNot (wsV RX12 364 RX12 yX12_whyNotTake wm_X12_whyNotTake) := goodIn_app (goodIn_of _ (by decide +kernel)) (goodIn_r _ [42, 43, 11, 44, 45, 46, 4, 47, 10, 13, 48, 49, 50, 51, 52, 53, 54, 55, 56, 57, 58, 59, 25, 26, 27, 28, 29, 30, 60, 61, 62, 63, 64, 65, 66, 67, 22, 35, 36, 23, 24, 37, 68, 69, 70, 71, 72, 73, 74, 75, 76, 77, 78, 79, 80, 81, 82, 83, 84, 85, 86, 87, 88, 89, 90, 91, 92, 93, 94, 95, 96, 97, 98, 99, 100, 101, 132, 133, 134, 135, 136, 137, 138, 139, 140, 141, 142, 143, 144, 145, 146, 147, 148, 149, 150, 151, 152, 153, 154, 155, 156, 157, 158, 159, 160, 161, 162, 163, 164, 165, 166, 167, 168, 169, 170, 171, 172, 173, 174, 175, 176, 177, 178, 179, 180, 181, 182, 183, 184, 185, 186, 187, 188, 189, 190, 191, 192, 193, 194, 195, 196, 197, 198, 199, 200] (by decide +kernel) (by decide +kernel))
set_option maxRecDepth 20000 in
theorem gm_X12_whyNot_X12_holds : GoodIn wm_X12_whyNot (wsV RX12 355 RX12 yX12_holds wm_X12_holds) := goodIn_app (goodIn_of _ (by decide +kernel)) (goodIn_r _ [51, 10, 13, 11, 132, 133, 134, 135, 136, 137, 138, 139, 140, 141, 142, 143, 144, 145, 146, 147, 148, 149, 150, 151, 152, 153, 154, 155, 156, 157, 158, 159, 160, 161, 162, 163, 164, 165, 166, 167, 168, 169, 170, 171, 172, 173, 174, 175, 176, 177, 178, 179, 180, 181, 182, 183, 184, 185, 186, 187, 188, 189, 190, 191, 192, 193, 194, 195, 196, 197, 198, 199, 200] (by decide +kernel) (by decide +kernel))
set_option maxRecDepth 20000 in
theorem gm_X12_whyNot_X12_whyNotPut : GoodIn wm_X12_whyNot (wsV RX12 367 RX12 yX12_whyNotPut wm_X12_whyNotPut) := goodIn_app (goodIn_of _ (by decide +kernel)) (goodIn_r _ [105, 48, 49, 50, 4, 51, 10, 13, 11, 43, 44, 45, 46, 47, 69, 106, 107, 108, 109, 88, 38, 25, 26, 27, 28, 29, 30, 110, 132, 133, 134, 135, 136, 137, 138, 139, 140, 141, 142, 143, 144, 145, 146, 147, 148, 149, 150, 151, 152, 153, 154, 155, 156, 157, 158, 159, 160, 161, 162, 163, 164, 165, 166, 167, 168, 169, 170, 171, 172, 173, 174, 175, 176, 177, 178, 179, 180, 181, 182, 183, 184, 185, 186, 187, 188, 189, 190, 191, 192, 193, 194, 195, 196, 197, 198, 199, 200] (by decide +kernel) (by decide +kernel))
set_option maxRecDepth 20000 in
theorem gm_X12_whyNot_X12_whyNotTurn : GoodIn wm_X12_whyNot (wsV RX12 371 RX12 yX12_whyNotTurn wm_X12_whyNotTurn) := goodIn_app (goodIn_of _ (by decide +kernel)) (goodIn_r _ [114, 43, 115, 116, 117, 4, 118, 25, 26, 27, 28, 29, 30, 69, 119, 120, 121, 122, 22, 35, 36, 24, 23, 48, 49, 50, 51, 10, 13, 11, 38, 123, 132, 133, 134, 135, 136, 137, 138, 139, 140, 141, 142, 143, 144, 145, 146, 147, 148, 149, 150, 151, 152, 153, 154, 155, 156, 157, 158, 159, 160, 161, 162, 163, 164, 165, 166, 167, 168, 169, 170, 171, 172, 173, 174, 175, 176, 177, 178, 179, 180, 181, 182, 183, 184, 185, 186, 187, 188, 189, 190, 191, 192, 193, 194, 195, 196, 197, 198, 199, 200] (by decide +kernel) (by decide +kernel))
set_option maxRecDepth 20000 in
theorem gm_X12_whyNot_X12_saidFlag : GoodIn wm_X12_whyNot (wsV RX12 256 RX12 yX12_saidFlag wm_X12_saidFlag) := goodIn_app (goodIn_of _ (by decide +kernel)) (goodIn_r _ [63, 64, 65, 66, 4, 67, 22, 35, 36, 23, 24, 37, 29, 25, 26, 27, 28, 30, 68, 132, 133, 134, 135, 136, 137, 138, 139, 140, 141, 142, 143, 144, 145, 146, 147, 148, 149, 150, 151, 152, 153, 154, 155, 156, 157, 158, 159, 160, 161, 162, 163, 164, 165, 166, 167, 168, 169, 170, 171, 172, 173, 174, 175, 176, 177, 178, 179, 180, 181, 182, 183, 184, 185, 186, 187, 188, 189, 190, 191, 192, 193, 194, 195, 196, 197, 198, 199, 200] (by decide +kernel) (by decide +kernel))
set_option maxRecDepth 20000 in
theorem gm_X12_whyNot_X12_whyNotEnter : GoodIn wm_X12_whyNot (wsV RX12 375 RX12 yX12_whyNotEnter wm_X12_whyNotEnter) := goodIn_app (goodIn_of _ (by decide +kernel)) (goodIn_r _ [127, 43, 110, 11, 44, 45, 46, 4, 47, 10, 13, 69, 38, 25, 26, 27, 28, 29, 30, 132, 133, 134, 135, 136, 137, 138, 139, 140, 141, 142, 143, 144, 145, 146, 147, 148, 149, 150, 151, 152, 153, 154, 155, 156, 157, 158, 159, 160, 161, 162, 163, 164, 165, 166, 167, 168, 169, 170, 171, 172, 173, 174, 175, 176, 177, 178, 179, 180, 181, 182, 183, 184, 185, 186, 187, 188, 189, 190, 191, 192, 193, 194, 195, 196, 197, 198, 199, 200] (by decide +kernel) (by decide +kernel))
set_option maxRecDepth 20000 in
theorem gm_X12_whyNot_X12_whyNotLeave : GoodIn wm_X12_whyNot (wsV RX12 378 RX12 yX12_whyNotLeave wm_X12_whyNotLeave) := goodIn_app (goodIn_of _ (by decide +kernel)) (goodIn_r _ [131, 6, 7, 8, 4, 9, 10, 11, 12, 13, 110, 38, 132, 133, 134, 135, 136, 137, 138, 139, 140, 141, 142, 143, 144, 145, 146, 147, 148, 149, 150, 151, 152, 153, 154, 155, 156, 157, 158, 159, 160, 161, 162, 163, 164, 165, 166, 167, 168, 169, 170, 171, 172, 173, 174, 175, 176, 177, 178, 179, 180, 181, 182, 183, 184, 185, 186, 187, 188, 189, 190, 191, 192, 193, 194, 195, 196, 197, 198, 199, 200] (by decide +kernel) (by decide +kernel))
set_option maxHeartbeats 4000000 in
set_option maxRecDepth 100000 in
theorem s_X12_whyNot (l : Launch) (D : va_G) (sz : Nat) (o : Nat) (a : Nat → Nat) (t : Nat → ClassId) (i : Nat → Int32) (q : Int64) (c : Nat → Nat → Int32) (d : Nat → Nat → Int64) (v1 : Int32) (w1 : Int32) (w2 : Int32) (hI : mInv i c) (hv1 : 0 ≤ v1.toInt ∧ v1.toInt ≤ 12) (hx0 : v1.toInt = 0 → 0 ≤ w1.toInt ∧ w1.toInt ≤ 9) (hx1 : 1 ≤ v1.toInt ∧ v1.toInt ≤ 10 → 0 ≤ w1.toInt ∧ w1.toInt < (i 5).toInt) (hy : v1.toInt = 3 ∨ v1.toInt = 4 ∨ v1.toInt = 7 ∨ v1.toInt = 8 → 0 ≤ w2.toInt ∧ w2.toInt < (i 5).toInt) (hs_T : TI (i 5).toInt (fun z => Kd (c 3) (c 6) z 0) (i 22).toInt (c 23) (c 24)) (hs_C : Cc (c 3) (c 6) (c 47) (c 48) (c 49) (i 5).toInt) (hs_G : Acy (gF (c 9) (c 10) (c 11) (c 13) (c 23) (c 24) (i 8).toInt (i 5).toInt (i 22).toInt)) : Met l yX12_whyNot wm_X12_whyNot ({ frames := 4, cells := 0, slots := 0, locals := 93 }) (va_Pc [.ref o, .int v1, .int w1, .int w2] (pB D sz (mW o a t i q c d) (mT t))) (va_Qi (fun (r : Int32) (u : MS) => ((0 ≤ r.toInt ∧ r.toInt ≤ 21) ∧ (Im (r.toInt = 0) (AC (c 3) (c 6) (c 9) (c 10) (c 11) (c 12) (c 13) (c 23) (c 24) (c 44) (i 8).toInt (i 5).toInt (i 22).toInt v1.toInt w1.toInt w2.toInt))) ∧ mInv u.1 u.2.2.1 ∧ (∀ k, k ∉ ([16, 17, 18, 19, 35, 36] : List Nat) → u.1 k = i k) ∧ (∀ k, k ∉ ([34, 38, 39] : List Nat) → u.2.2.1 k = c k)) (oC D (va_A (mW o a t i q c d) sz) (fun u : MS => mW o a t u.1 u.2.1 u.2.2.1 u.2.2.2) (fun _ => [])) (va_A (mW o a t i q c d) sz)) 0 0 (va_A (mW o a t i q c d) sz) := by
  refine Met.ofW (cc := cX12_whyNot) (maxL := 4) (ret := (some .int)) (by decide) rfl ?_
  intro p e s m args below meth cd s₁ B hml hv
  obtain ⟨rfl, hsz, hP, hK, hD0⟩ := hv
  have hx := B.exec
  have hb := B.bytes
  have hr := B.returns
  have hts := atoms_spec (ws := wm_X12_whyNot) B.pre
  have hown : s.vm.findClass RX12 = some m.cls := findClass_of_methodNamed B.named
  have hlocks := B.notSynchronized
  subst hsz
  have hD := hD0.self (sz := s.heap.size)
  generalize hAe : va_A (mW o a t i q c d) s.heap.size = A at hD ⊢
  have hA : ∀ q : Nat, s.heap.size ≤ q → A q := fun q h => by rw [← hAe]; exact Or.inr h
  have hS : va_S A s.heap s.heap [] := va_S.rf
  have hfi : ∀ k, k ∉ ([] : List Nat) → i k = i k := fun _ _ => rfl
  have hfc : ∀ k, k ∉ ([] : List Nat) → c k = c k := fun _ _ => rfl
  have hl := lv_entry ([.ref o, .int v1, .int w1, .int w2]) (n := 4) (Nat.le_of_ble_eq_true rfl)
  rw [lg_entry_eq]
  generalize (lg_sl ([.ref o, .int v1, .int w1, .int w2]) ++ List.replicate (4 - (lg_sl ([.ref o, .int v1, .int w1, .int w2])).length) Slot.unset).toArray = ls at hl ⊢
  have hl : lv_has ls 4 [(0, .ref o), (1, .int v1), (2, .int w1), (3, .int w2)] := hl
  have rb5_i : 0 ≤ (i 5).toInt ∧ (i 5).toInt ≤ 30 := hI.1 5
  refine lv_iload_n hx hb dX12_whyNot_0 rfl (lv_at hl 1 rfl) ?_
  rcases (show (v1.toInt < 0 ∨ 11 < v1.toInt) ∨ v1.toInt = 0 ∨ v1.toInt = 1 ∨ v1.toInt = 2 ∨ v1.toInt = 3 ∨ v1.toInt = 4 ∨ v1.toInt = 5 ∨ v1.toInt = 6 ∨ v1.toInt = 7 ∨ v1.toInt = 8 ∨ v1.toInt = 9 ∨ v1.toInt = 10 ∨ v1.toInt = 11 by omega) with f1 | f1 | f1 | f1 | f1 | f1 | f1 | f1 | f1 | f1 | f1 | f1 | f1
  · refine lv_tableOut (tgt := 157) hx hb dX12_whyNot_1 f1 (by decide) ?_
    refine lv_iconst (v := 0) hx hb dX12_whyNot_157 (by decide) ?_
    exact rw_iret (i, q, c, d) hx hb hr hlocks hS (hK.sub (tys' := []) [] rfl) hP hD dX12_whyNot_158 ⟨⟨(show 0 ≤ (0 : Int32).toInt ∧ (0 : Int32).toInt ≤ 21 from by have h9 : (0 : Int32).toInt = 0 := (by decide); omega), (show Im ((0 : Int32).toInt = 0) (AC (c 3) (c 6) (c 9) (c 10) (c 11) (c 12) (c 13) (c 23) (c 24) (c 44) (i 8).toInt (i 5).toInt (i 22).toInt v1.toInt w1.toInt w2.toInt) from fun h9 => ⟨fun e9 => by first | (exfalso; omega) | exact hI h9, fun e9 => by first | (exfalso; omega) | exact hI h9, fun e9 => by first | (exfalso; omega) | exact hI (by omega) | exact ⟨(hI h9).1, (hI h9).2.1⟩, fun e9 => by first | (exfalso; omega) | exact ⟨(hI h9).2.2.1, (hI h9).2.2.2⟩, fun e9 => by first | (exfalso; omega) | exact hI h9, fun e9 => by first | (exfalso; omega) | exact hI h9⟩)⟩, hI, fr_w hfi (by decide), fr_w hfc (by decide)⟩
  · refine lv_tableIn (off := 63) (tgt := 64) hx hb dX12_whyNot_1 (by omega) (by omega) (by rw [f1]; rfl) (by decide) ?_
    refine lv_aload_n hx hb dX12_whyNot_64 rfl (lv_at hl 0 rfl) ?_
    refine lv_iload_n hx hb dX12_whyNot_65 rfl (lv_at hl 2 rfl) ?_
    have rb8_i : 0 ≤ (i 8).toInt ∧ (i 8).toInt ≤ 200 := hI.1 8
    have rb22_i : (i 22).toInt = -9 ∨ (0 ≤ (i 22).toInt ∧ (i 22).toInt ≤ 29) := hI.1 22
    refine al_calli (va_runV (As := [.int w1]) (rest := []) ⟨hx, hb, hml, hown, hts⟩ (s_X12_whyNotGo l D s.heap.size o a t i q c d w1 hI (show 0 ≤ w1.toInt ∧ w1.toInt ≤ 9 from by omega) hs_T) (cwV 1 hts gm_X12_whyNot_X12_whyNotGo rfl rfl rfl (by decide +kernel) ⟨Nat.le_of_ble_eq_true rfl, Nat.le_of_ble_eq_true rfl⟩) (pB_V hK hP hD (ci := 12) (q0 := 0) rfl rfl) rfl rfl hl.1 rfl (lv_room (Nat.le_of_ble_eq_true rfl)) dX12_whyNot_66 ⟨Nat.le_of_ble_eq_true rfl, Nat.le_of_ble_eq_true rfl⟩) hS hA hP hD (fun r2 u2 H locs hw2 hP hD hS => ?_)
    obtain ⟨i2, q2, c2, d2⟩ := u2
    have hw2 : ((0 ≤ r2.toInt ∧ r2.toInt ≤ 3) ∧ (Im (r2.toInt = 0) (∃ v, LdR (c 3) (c 6) (c 9) (c 10) (c 11) (c 12) (c 13) (i 8).toInt (c 24 (i 22).toInt.toNat).toInt w1.toInt v ∧ ¬ v = -9))) ∧ mInv i2 c2 ∧ (∀ k, k ∉ ([16, 17, 18, 19] : List Nat) → i2 k = i k) ∧ (∀ k, k ∉ ([] : List Nat) → c2 k = c k) := hw2
    obtain ⟨hw2, hI, hei2, hec2⟩ := hw2
    obtain ⟨hw2, hr2_0⟩ := hw2
    have hr2_0 : Im (r2.toInt = 0) (∃ v, LdR (c 3) (c 6) (c 9) (c 10) (c 11) (c 12) (c 13) (i 8).toInt (c 24 (i 22).toInt.toNat).toInt w1.toInt v ∧ ¬ v = -9) := hr2_0
    have hfi : ∀ k, k ∉ ([16, 17, 18, 19] : List Nat) → i2 k = i k := fr_z hfi hei2 (by decide) (by decide)
    have hfc : ∀ k, k ∉ ([] : List Nat) → c2 k = c k := fr_z hfc hec2 (by decide) (by decide)
    have hP : va_P D vwCl (mW o a t i2 q2 c2 d2) H := hP
    have hD : va_D A (mW o a t i2 q2 c2 d2) := hD
    exact rw_iret (i2, q2, c2, d2) hx hb hr hlocks hS (hK.sub (tys' := []) [] rfl) hP hD dX12_whyNot_69 ⟨⟨(show 0 ≤ r2.toInt ∧ r2.toInt ≤ 21 from by omega), (show Im (r2.toInt = 0) (AC (c 3) (c 6) (c 9) (c 10) (c 11) (c 12) (c 13) (c 23) (c 24) (c 44) (i 8).toInt (i 5).toInt (i 22).toInt v1.toInt w1.toInt w2.toInt) from fun h9 => ⟨fun e9 => by first | (exfalso; omega) | exact hr2_0 h9, fun e9 => by first | (exfalso; omega) | exact hr2_0 h9, fun e9 => by first | (exfalso; omega) | exact hr2_0 (by omega) | exact ⟨(hr2_0 h9).1, (hr2_0 h9).2.1⟩, fun e9 => by first | (exfalso; omega) | exact ⟨(hr2_0 h9).2.2.1, (hr2_0 h9).2.2.2⟩, fun e9 => by first | (exfalso; omega) | exact hr2_0 h9, fun e9 => by first | (exfalso; omega) | exact hr2_0 h9⟩)⟩, hI, fr_w hfi (by decide), fr_w hfc (by decide)⟩
  · refine lv_tableIn (off := 69) (tgt := 70) hx hb dX12_whyNot_1 (by omega) (by omega) (by rw [f1]; rfl) (by decide) ?_
    refine lv_aload_n hx hb dX12_whyNot_70 rfl (lv_at hl 0 rfl) ?_
    refine lv_iload_n hx hb dX12_whyNot_71 rfl (lv_at hl 2 rfl) ?_
    have rb8_i : 0 ≤ (i 8).toInt ∧ (i 8).toInt ≤ 200 := hI.1 8
    have rb22_i : (i 22).toInt = -9 ∨ (0 ≤ (i 22).toInt ∧ (i 22).toInt ≤ 29) := hI.1 22
    refine al_calli (va_runV (As := [.int w1]) (rest := []) ⟨hx, hb, hml, hown, hts⟩ (s_X12_whyNotTake l D s.heap.size o a t i q c d w1 hI (show 0 ≤ w1.toInt ∧ w1.toInt < ((i 5) : Int32).toInt from by omega) hs_T hs_G) (cwV 1 hts gm_X12_whyNot_X12_whyNotTake rfl rfl rfl (by decide +kernel) ⟨Nat.le_of_ble_eq_true rfl, Nat.le_of_ble_eq_true rfl⟩) (pB_V hK hP hD (ci := 12) (q0 := 0) rfl rfl) rfl rfl hl.1 rfl (lv_room (Nat.le_of_ble_eq_true rfl)) dX12_whyNot_72 ⟨Nat.le_of_ble_eq_true rfl, Nat.le_of_ble_eq_true rfl⟩) hS hA hP hD (fun r3 u3 H locs hw3 hP hD hS => ?_)
    obtain ⟨i3, q3, c3, d3⟩ := u3
    have hw3 : ((0 ≤ r3.toInt ∧ r3.toInt ≤ 10) ∧ (Im (r3.toInt = 0) (¬ w1.toInt = (i 22).toInt ∧ ¬ Ch (nF (i 5).toInt (c 23) (c 24)) (nF (i 5).toInt (c 23) (c 24) (i 22).toInt) w1.toInt ∧ Kd (c 3) (c 6) w1.toInt 1))) ∧ mInv i3 c3 ∧ (∀ k, k ∉ ([35, 36] : List Nat) → i3 k = i k) ∧ (∀ k, k ∉ ([34, 38, 39] : List Nat) → c3 k = c k) := hw3
    obtain ⟨hw3, hI, hei3, hec3⟩ := hw3
    obtain ⟨hw3, hr3_0⟩ := hw3
    have hr3_0 : Im (r3.toInt = 0) (¬ w1.toInt = (i 22).toInt ∧ ¬ Ch (nF (i 5).toInt (c 23) (c 24)) (nF (i 5).toInt (c 23) (c 24) (i 22).toInt) w1.toInt ∧ Kd (c 3) (c 6) w1.toInt 1) := hr3_0
    have hfi : ∀ k, k ∉ ([35, 36] : List Nat) → i3 k = i k := fr_z hfi hei3 (by decide) (by decide)
    have hfc : ∀ k, k ∉ ([34, 38, 39] : List Nat) → c3 k = c k := fr_z hfc hec3 (by decide) (by decide)
    have hP : va_P D vwCl (mW o a t i3 q3 c3 d3) H := hP
    have hD : va_D A (mW o a t i3 q3 c3 d3) := hD
    exact rw_iret (i3, q3, c3, d3) hx hb hr hlocks hS (hK.sub (tys' := []) [] rfl) hP hD dX12_whyNot_75 ⟨⟨(show 0 ≤ r3.toInt ∧ r3.toInt ≤ 21 from by omega), (show Im (r3.toInt = 0) (AC (c 3) (c 6) (c 9) (c 10) (c 11) (c 12) (c 13) (c 23) (c 24) (c 44) (i 8).toInt (i 5).toInt (i 22).toInt v1.toInt w1.toInt w2.toInt) from fun h9 => ⟨fun e9 => by first | (exfalso; omega) | exact hr3_0 h9, fun e9 => by first | (exfalso; omega) | exact hr3_0 h9, fun e9 => by first | (exfalso; omega) | exact hr3_0 (by omega) | exact ⟨(hr3_0 h9).1, (hr3_0 h9).2.1⟩, fun e9 => by first | (exfalso; omega) | exact ⟨(hr3_0 h9).2.2.1, (hr3_0 h9).2.2.2⟩, fun e9 => by first | (exfalso; omega) | exact hr3_0 h9, fun e9 => by first | (exfalso; omega) | exact hr3_0 h9⟩)⟩, hI, fr_w hfi (by decide), fr_w hfc (by decide)⟩
  · refine lv_tableIn (off := 75) (tgt := 76) hx hb dX12_whyNot_1 (by omega) (by omega) (by rw [f1]; rfl) (by decide) ?_
    refine lv_aload_n hx hb dX12_whyNot_76 rfl (lv_at hl 0 rfl) ?_
    refine lv_iload_n hx hb dX12_whyNot_77 rfl (lv_at hl 2 rfl) ?_
    have rb22_i : (i 22).toInt = -9 ∨ (0 ≤ (i 22).toInt ∧ (i 22).toInt ≤ 29) := hI.1 22
    refine ro_calli (va_runV (As := [.int w1]) (rest := []) ⟨hx, hb, hml, hown, hts⟩ (s_X12_holds l D s.heap.size o a t i q c d w1 hI (show 0 ≤ w1.toInt ∧ w1.toInt ≤ 29 from by omega)) (cwV 1 hts gm_X12_whyNot_X12_holds rfl rfl rfl (by decide +kernel) ⟨Nat.le_of_ble_eq_true rfl, Nat.le_of_ble_eq_true rfl⟩) (pA_V hK hP (ci := 12) (q0 := 0) rfl rfl) rfl rfl hl.1 rfl (lv_room (Nat.le_of_ble_eq_true rfl)) dX12_whyNot_78 ⟨Nat.le_of_ble_eq_true rfl, Nat.le_of_ble_eq_true rfl⟩) hS hA hP (fun r4 u4 H locs hw4 hP hS => ?_)
    have hw4 : ((0 ≤ r4.toInt ∧ r4.toInt ≤ 1) ∧ (Im (r4.toInt = 1) ((c 23 w1.toNatClampNeg).toInt = 2 ∧ (c 24 w1.toNatClampNeg).toInt = (i 22).toInt))) := hw4
    obtain ⟨hw4, hr4_0⟩ := hw4
    have hr4_0 : Im (r4.toInt = 1) ((c 23 w1.toNatClampNeg).toInt = 2 ∧ (c 24 w1.toNatClampNeg).toInt = (i 22).toInt) := hr4_0
    refine lv_if_eq (tgt := 88) hx hb dX12_whyNot_81 (by decide) (fun c5 => ?_) (fun c5 => ?_)
    · have f5 := (ti_eq (a := r4.toInt) (b := 0) rfl (by decide)).mp c5
      refine lv_bipush (v := 11) hx hb dX12_whyNot_88 (by decide) ?_
      exact rw_iret (i, q, c, d) hx hb hr hlocks hS (hK.sub (tys' := []) [] rfl) hP hD dX12_whyNot_90 ⟨⟨(show 0 ≤ (11 : Int32).toInt ∧ (11 : Int32).toInt ≤ 21 from by have h9 : (11 : Int32).toInt = 11 := (by decide); omega), (show Im ((11 : Int32).toInt = 0) (AC (c 3) (c 6) (c 9) (c 10) (c 11) (c 12) (c 13) (c 23) (c 24) (c 44) (i 8).toInt (i 5).toInt (i 22).toInt v1.toInt w1.toInt w2.toInt) from fun h9 => absurd h9 (by decide))⟩, hI, fr_w hfi (by decide), fr_w hfc (by decide)⟩
    · have f5 := mt (ti_eq (a := r4.toInt) (b := 0) rfl (by decide)).mpr c5
      refine lv_iconst (v := 0) hx hb dX12_whyNot_84 (by decide) ?_
      refine lv_goto (tgt := 90) hx hb dX12_whyNot_85 (by decide) ?_
      exact rw_iret (i, q, c, d) hx hb hr hlocks hS (hK.sub (tys' := []) [] rfl) hP hD dX12_whyNot_90 ⟨⟨(show 0 ≤ (0 : Int32).toInt ∧ (0 : Int32).toInt ≤ 21 from by have h9 : (0 : Int32).toInt = 0 := (by decide); omega), (show Im ((0 : Int32).toInt = 0) (AC (c 3) (c 6) (c 9) (c 10) (c 11) (c 12) (c 13) (c 23) (c 24) (c 44) (i 8).toInt (i 5).toInt (i 22).toInt v1.toInt w1.toInt w2.toInt) from fun h9 => ⟨fun e9 => by first | (exfalso; omega) | exact hr4_0 h9, fun e9 => by first | (exfalso; omega) | exact hr4_0 h9, fun e9 => by first | (exfalso; omega) | exact hr4_0 (by omega) | exact ⟨(hr4_0 h9).1, (hr4_0 h9).2.1⟩, fun e9 => by first | (exfalso; omega) | exact ⟨(hr4_0 h9).2.2.1, (hr4_0 h9).2.2.2⟩, fun e9 => by first | (exfalso; omega) | exact hr4_0 h9, fun e9 => by first | (exfalso; omega) | exact hr4_0 h9⟩)⟩, hI, fr_w hfi (by decide), fr_w hfc (by decide)⟩
  · refine lv_tableIn (off := 90) (tgt := 91) hx hb dX12_whyNot_1 (by omega) (by omega) (by rw [f1]; rfl) (by decide) ?_
    refine lv_aload_n hx hb dX12_whyNot_91 rfl (lv_at hl 0 rfl) ?_
    refine lv_iload_n hx hb dX12_whyNot_92 rfl (lv_at hl 2 rfl) ?_
    refine lv_iload_n hx hb dX12_whyNot_93 rfl (lv_at hl 3 rfl) ?_
    refine lv_iload_n hx hb dX12_whyNot_94 rfl (lv_at hl 1 rfl) ?_
    refine lv_iconst (v := 3) hx hb dX12_whyNot_95 (by decide) ?_
    refine lv_icmp_ne (tgt := 103) hx hb dX12_whyNot_96 (by decide) (fun c6 => ?_) (fun c6 => ?_)
    · have f6 := mt (ti_eq (a := v1.toInt) (b := 3) rfl (by decide)).mpr c6
      refine lv_iconst (v := 0) hx hb dX12_whyNot_103 (by decide) ?_
      have rb22_i : (i 22).toInt = -9 ∨ (0 ≤ (i 22).toInt ∧ (i 22).toInt ≤ 29) := hI.1 22
      refine ro_calli (va_runV (As := [.int w1, .int w2, .int 0]) (rest := []) ⟨hx, hb, hml, hown, hts⟩ (s_X12_whyNotPut l D s.heap.size o a t i q c d w1 w2 0 hI (show 0 ≤ w1.toInt ∧ w1.toInt < ((i 5) : Int32).toInt from by have h92 : (0 : Int32).toInt = 0 := (by decide); omega) (show 0 ≤ w2.toInt ∧ w2.toInt < ((i 5) : Int32).toInt from by have h92 : (0 : Int32).toInt = 0 := (by decide); omega) hs_T) (cwV 3 hts gm_X12_whyNot_X12_whyNotPut rfl rfl rfl (by decide +kernel) ⟨Nat.le_of_ble_eq_true rfl, Nat.le_of_ble_eq_true rfl⟩) (pA_V hK hP (ci := 12) (q0 := 0) rfl rfl) rfl rfl hl.1 rfl (lv_room (Nat.le_of_ble_eq_true rfl)) dX12_whyNot_104 ⟨Nat.le_of_ble_eq_true rfl, Nat.le_of_ble_eq_true rfl⟩) hS hA hP (fun r7 u7 H locs hw7 hP hS => ?_)
      have hw7 : ((0 ≤ r7.toInt ∧ r7.toInt ≤ 14) ∧ (Im (r7.toInt = 0) ((c 23 w1.toNatClampNeg).toInt = 2 ∧ (c 24 w1.toNatClampNeg).toInt = (i 22).toInt ∧ ¬ w1.toInt = w2.toInt ∧ ¬ Ch (nF (i 5).toInt (c 23) (c 24)) (nF (i 5).toInt (c 23) (c 24) w2.toInt) w1.toInt))) := hw7
      obtain ⟨hw7, hr7_0⟩ := hw7
      have hr7_0 : Im (r7.toInt = 0) ((c 23 w1.toNatClampNeg).toInt = 2 ∧ (c 24 w1.toNatClampNeg).toInt = (i 22).toInt ∧ ¬ w1.toInt = w2.toInt ∧ ¬ Ch (nF (i 5).toInt (c 23) (c 24)) (nF (i 5).toInt (c 23) (c 24) w2.toInt) w1.toInt) := hr7_0
      exact rw_iret (i, q, c, d) hx hb hr hlocks hS (hK.sub (tys' := []) [] rfl) hP hD dX12_whyNot_107 ⟨⟨(show 0 ≤ r7.toInt ∧ r7.toInt ≤ 21 from by omega), (show Im (r7.toInt = 0) (AC (c 3) (c 6) (c 9) (c 10) (c 11) (c 12) (c 13) (c 23) (c 24) (c 44) (i 8).toInt (i 5).toInt (i 22).toInt v1.toInt w1.toInt w2.toInt) from fun h9 => ⟨fun e9 => by first | (exfalso; omega) | exact hr7_0 h9, fun e9 => by first | (exfalso; omega) | exact hr7_0 h9, fun e9 => by first | (exfalso; omega) | exact hr7_0 (by omega) | exact ⟨(hr7_0 h9).1, (hr7_0 h9).2.1⟩, fun e9 => by first | (exfalso; omega) | exact ⟨(hr7_0 h9).2.2.1, (hr7_0 h9).2.2.2⟩, fun e9 => by first | (exfalso; omega) | exact hr7_0 h9, fun e9 => by first | (exfalso; omega) | exact hr7_0 h9⟩)⟩, hI, fr_w hfi (by decide), fr_w hfc (by decide)⟩
    · have f6 := (ti_eq (a := v1.toInt) (b := 3) rfl (by decide)).mp c6
      refine lv_iconst (v := 1) hx hb dX12_whyNot_99 (by decide) ?_
      refine lv_goto (tgt := 104) hx hb dX12_whyNot_100 (by decide) ?_
      have rb22_i : (i 22).toInt = -9 ∨ (0 ≤ (i 22).toInt ∧ (i 22).toInt ≤ 29) := hI.1 22
      refine ro_calli (va_runV (As := [.int w1, .int w2, .int 1]) (rest := []) ⟨hx, hb, hml, hown, hts⟩ (s_X12_whyNotPut l D s.heap.size o a t i q c d w1 w2 1 hI (show 0 ≤ w1.toInt ∧ w1.toInt < ((i 5) : Int32).toInt from by have h92 : (1 : Int32).toInt = 1 := (by decide); omega) (show 0 ≤ w2.toInt ∧ w2.toInt < ((i 5) : Int32).toInt from by have h92 : (1 : Int32).toInt = 1 := (by decide); omega) hs_T) (cwV 3 hts gm_X12_whyNot_X12_whyNotPut rfl rfl rfl (by decide +kernel) ⟨Nat.le_of_ble_eq_true rfl, Nat.le_of_ble_eq_true rfl⟩) (pA_V hK hP (ci := 12) (q0 := 0) rfl rfl) rfl rfl hl.1 rfl (lv_room (Nat.le_of_ble_eq_true rfl)) dX12_whyNot_104 ⟨Nat.le_of_ble_eq_true rfl, Nat.le_of_ble_eq_true rfl⟩) hS hA hP (fun r8 u8 H locs hw8 hP hS => ?_)
      have hw8 : ((0 ≤ r8.toInt ∧ r8.toInt ≤ 14) ∧ (Im (r8.toInt = 0) ((c 23 w1.toNatClampNeg).toInt = 2 ∧ (c 24 w1.toNatClampNeg).toInt = (i 22).toInt ∧ ¬ w1.toInt = w2.toInt ∧ ¬ Ch (nF (i 5).toInt (c 23) (c 24)) (nF (i 5).toInt (c 23) (c 24) w2.toInt) w1.toInt))) := hw8
      obtain ⟨hw8, hr8_0⟩ := hw8
      have hr8_0 : Im (r8.toInt = 0) ((c 23 w1.toNatClampNeg).toInt = 2 ∧ (c 24 w1.toNatClampNeg).toInt = (i 22).toInt ∧ ¬ w1.toInt = w2.toInt ∧ ¬ Ch (nF (i 5).toInt (c 23) (c 24)) (nF (i 5).toInt (c 23) (c 24) w2.toInt) w1.toInt) := hr8_0
      exact rw_iret (i, q, c, d) hx hb hr hlocks hS (hK.sub (tys' := []) [] rfl) hP hD dX12_whyNot_107 ⟨⟨(show 0 ≤ r8.toInt ∧ r8.toInt ≤ 21 from by omega), (show Im (r8.toInt = 0) (AC (c 3) (c 6) (c 9) (c 10) (c 11) (c 12) (c 13) (c 23) (c 24) (c 44) (i 8).toInt (i 5).toInt (i 22).toInt v1.toInt w1.toInt w2.toInt) from fun h9 => ⟨fun e9 => by first | (exfalso; omega) | exact hr8_0 h9, fun e9 => by first | (exfalso; omega) | exact hr8_0 h9, fun e9 => by first | (exfalso; omega) | exact hr8_0 (by omega) | exact ⟨(hr8_0 h9).1, (hr8_0 h9).2.1⟩, fun e9 => by first | (exfalso; omega) | exact ⟨(hr8_0 h9).2.2.1, (hr8_0 h9).2.2.2⟩, fun e9 => by first | (exfalso; omega) | exact hr8_0 h9, fun e9 => by first | (exfalso; omega) | exact hr8_0 h9⟩)⟩, hI, fr_w hfi (by decide), fr_w hfc (by decide)⟩
  · refine lv_tableIn (off := 90) (tgt := 91) hx hb dX12_whyNot_1 (by omega) (by omega) (by rw [f1]; rfl) (by decide) ?_
    refine lv_aload_n hx hb dX12_whyNot_91 rfl (lv_at hl 0 rfl) ?_
    refine lv_iload_n hx hb dX12_whyNot_92 rfl (lv_at hl 2 rfl) ?_
    refine lv_iload_n hx hb dX12_whyNot_93 rfl (lv_at hl 3 rfl) ?_
    refine lv_iload_n hx hb dX12_whyNot_94 rfl (lv_at hl 1 rfl) ?_
    refine lv_iconst (v := 3) hx hb dX12_whyNot_95 (by decide) ?_
    refine lv_icmp_ne (tgt := 103) hx hb dX12_whyNot_96 (by decide) (fun c9 => ?_) (fun c9 => ?_)
    · have f9 := mt (ti_eq (a := v1.toInt) (b := 3) rfl (by decide)).mpr c9
      refine lv_iconst (v := 0) hx hb dX12_whyNot_103 (by decide) ?_
      have rb22_i : (i 22).toInt = -9 ∨ (0 ≤ (i 22).toInt ∧ (i 22).toInt ≤ 29) := hI.1 22
      refine ro_calli (va_runV (As := [.int w1, .int w2, .int 0]) (rest := []) ⟨hx, hb, hml, hown, hts⟩ (s_X12_whyNotPut l D s.heap.size o a t i q c d w1 w2 0 hI (show 0 ≤ w1.toInt ∧ w1.toInt < ((i 5) : Int32).toInt from by have h92 : (0 : Int32).toInt = 0 := (by decide); omega) (show 0 ≤ w2.toInt ∧ w2.toInt < ((i 5) : Int32).toInt from by have h92 : (0 : Int32).toInt = 0 := (by decide); omega) hs_T) (cwV 3 hts gm_X12_whyNot_X12_whyNotPut rfl rfl rfl (by decide +kernel) ⟨Nat.le_of_ble_eq_true rfl, Nat.le_of_ble_eq_true rfl⟩) (pA_V hK hP (ci := 12) (q0 := 0) rfl rfl) rfl rfl hl.1 rfl (lv_room (Nat.le_of_ble_eq_true rfl)) dX12_whyNot_104 ⟨Nat.le_of_ble_eq_true rfl, Nat.le_of_ble_eq_true rfl⟩) hS hA hP (fun r10 u10 H locs hw10 hP hS => ?_)
      have hw10 : ((0 ≤ r10.toInt ∧ r10.toInt ≤ 14) ∧ (Im (r10.toInt = 0) ((c 23 w1.toNatClampNeg).toInt = 2 ∧ (c 24 w1.toNatClampNeg).toInt = (i 22).toInt ∧ ¬ w1.toInt = w2.toInt ∧ ¬ Ch (nF (i 5).toInt (c 23) (c 24)) (nF (i 5).toInt (c 23) (c 24) w2.toInt) w1.toInt))) := hw10
      obtain ⟨hw10, hr10_0⟩ := hw10
      have hr10_0 : Im (r10.toInt = 0) ((c 23 w1.toNatClampNeg).toInt = 2 ∧ (c 24 w1.toNatClampNeg).toInt = (i 22).toInt ∧ ¬ w1.toInt = w2.toInt ∧ ¬ Ch (nF (i 5).toInt (c 23) (c 24)) (nF (i 5).toInt (c 23) (c 24) w2.toInt) w1.toInt) := hr10_0
      exact rw_iret (i, q, c, d) hx hb hr hlocks hS (hK.sub (tys' := []) [] rfl) hP hD dX12_whyNot_107 ⟨⟨(show 0 ≤ r10.toInt ∧ r10.toInt ≤ 21 from by omega), (show Im (r10.toInt = 0) (AC (c 3) (c 6) (c 9) (c 10) (c 11) (c 12) (c 13) (c 23) (c 24) (c 44) (i 8).toInt (i 5).toInt (i 22).toInt v1.toInt w1.toInt w2.toInt) from fun h9 => ⟨fun e9 => by first | (exfalso; omega) | exact hr10_0 h9, fun e9 => by first | (exfalso; omega) | exact hr10_0 h9, fun e9 => by first | (exfalso; omega) | exact hr10_0 (by omega) | exact ⟨(hr10_0 h9).1, (hr10_0 h9).2.1⟩, fun e9 => by first | (exfalso; omega) | exact ⟨(hr10_0 h9).2.2.1, (hr10_0 h9).2.2.2⟩, fun e9 => by first | (exfalso; omega) | exact hr10_0 h9, fun e9 => by first | (exfalso; omega) | exact hr10_0 h9⟩)⟩, hI, fr_w hfi (by decide), fr_w hfc (by decide)⟩
    · have f9 := (ti_eq (a := v1.toInt) (b := 3) rfl (by decide)).mp c9
      refine lv_iconst (v := 1) hx hb dX12_whyNot_99 (by decide) ?_
      refine lv_goto (tgt := 104) hx hb dX12_whyNot_100 (by decide) ?_
      have rb22_i : (i 22).toInt = -9 ∨ (0 ≤ (i 22).toInt ∧ (i 22).toInt ≤ 29) := hI.1 22
      refine ro_calli (va_runV (As := [.int w1, .int w2, .int 1]) (rest := []) ⟨hx, hb, hml, hown, hts⟩ (s_X12_whyNotPut l D s.heap.size o a t i q c d w1 w2 1 hI (show 0 ≤ w1.toInt ∧ w1.toInt < ((i 5) : Int32).toInt from by have h92 : (1 : Int32).toInt = 1 := (by decide); omega) (show 0 ≤ w2.toInt ∧ w2.toInt < ((i 5) : Int32).toInt from by have h92 : (1 : Int32).toInt = 1 := (by decide); omega) hs_T) (cwV 3 hts gm_X12_whyNot_X12_whyNotPut rfl rfl rfl (by decide +kernel) ⟨Nat.le_of_ble_eq_true rfl, Nat.le_of_ble_eq_true rfl⟩) (pA_V hK hP (ci := 12) (q0 := 0) rfl rfl) rfl rfl hl.1 rfl (lv_room (Nat.le_of_ble_eq_true rfl)) dX12_whyNot_104 ⟨Nat.le_of_ble_eq_true rfl, Nat.le_of_ble_eq_true rfl⟩) hS hA hP (fun r11 u11 H locs hw11 hP hS => ?_)
      have hw11 : ((0 ≤ r11.toInt ∧ r11.toInt ≤ 14) ∧ (Im (r11.toInt = 0) ((c 23 w1.toNatClampNeg).toInt = 2 ∧ (c 24 w1.toNatClampNeg).toInt = (i 22).toInt ∧ ¬ w1.toInt = w2.toInt ∧ ¬ Ch (nF (i 5).toInt (c 23) (c 24)) (nF (i 5).toInt (c 23) (c 24) w2.toInt) w1.toInt))) := hw11
      obtain ⟨hw11, hr11_0⟩ := hw11
      have hr11_0 : Im (r11.toInt = 0) ((c 23 w1.toNatClampNeg).toInt = 2 ∧ (c 24 w1.toNatClampNeg).toInt = (i 22).toInt ∧ ¬ w1.toInt = w2.toInt ∧ ¬ Ch (nF (i 5).toInt (c 23) (c 24)) (nF (i 5).toInt (c 23) (c 24) w2.toInt) w1.toInt) := hr11_0
      exact rw_iret (i, q, c, d) hx hb hr hlocks hS (hK.sub (tys' := []) [] rfl) hP hD dX12_whyNot_107 ⟨⟨(show 0 ≤ r11.toInt ∧ r11.toInt ≤ 21 from by omega), (show Im (r11.toInt = 0) (AC (c 3) (c 6) (c 9) (c 10) (c 11) (c 12) (c 13) (c 23) (c 24) (c 44) (i 8).toInt (i 5).toInt (i 22).toInt v1.toInt w1.toInt w2.toInt) from fun h9 => ⟨fun e9 => by first | (exfalso; omega) | exact hr11_0 h9, fun e9 => by first | (exfalso; omega) | exact hr11_0 h9, fun e9 => by first | (exfalso; omega) | exact hr11_0 (by omega) | exact ⟨(hr11_0 h9).1, (hr11_0 h9).2.1⟩, fun e9 => by first | (exfalso; omega) | exact ⟨(hr11_0 h9).2.2.1, (hr11_0 h9).2.2.2⟩, fun e9 => by first | (exfalso; omega) | exact hr11_0 h9, fun e9 => by first | (exfalso; omega) | exact hr11_0 h9⟩)⟩, hI, fr_w hfi (by decide), fr_w hfc (by decide)⟩
  · refine lv_tableIn (off := 107) (tgt := 108) hx hb dX12_whyNot_1 (by omega) (by omega) (by rw [f1]; rfl) (by decide) ?_
    refine lv_aload_n hx hb dX12_whyNot_108 rfl (lv_at hl 0 rfl) ?_
    refine lv_iload_n hx hb dX12_whyNot_109 rfl (lv_at hl 1 rfl) ?_
    refine lv_iload_n hx hb dX12_whyNot_110 rfl (lv_at hl 2 rfl) ?_
    refine lv_iload_n hx hb dX12_whyNot_111 rfl (lv_at hl 3 rfl) ?_
    refine ro_calli (va_runV (As := [.int v1, .int w1, .int w2]) (rest := []) ⟨hx, hb, hml, hown, hts⟩ (s_X12_whyNotTurn l D s.heap.size o a t i q c d v1 w1 w2 hI (show 0 ≤ w1.toInt ∧ w1.toInt ≤ 29 from by omega) (show v1.toInt = 7 ∨ v1.toInt = 8 → 0 ≤ w2.toInt ∧ w2.toInt ≤ 29 from by omega) (show 5 ≤ v1.toInt ∧ v1.toInt ≤ 8 from by omega)) (cwV 3 hts gm_X12_whyNot_X12_whyNotTurn rfl rfl rfl (by decide +kernel) ⟨Nat.le_of_ble_eq_true rfl, Nat.le_of_ble_eq_true rfl⟩) (pA_V hK hP (ci := 12) (q0 := 0) rfl rfl) rfl rfl hl.1 rfl (lv_room (Nat.le_of_ble_eq_true rfl)) dX12_whyNot_112 ⟨Nat.le_of_ble_eq_true rfl, Nat.le_of_ble_eq_true rfl⟩) hS hA hP (fun r12 u12 H locs hw12 hP hS => ?_)
    have hw12 : (0 ≤ r12.toInt ∧ r12.toInt ≤ 18) := hw12
    exact rw_iret (i, q, c, d) hx hb hr hlocks hS (hK.sub (tys' := []) [] rfl) hP hD dX12_whyNot_115 ⟨⟨(show 0 ≤ r12.toInt ∧ r12.toInt ≤ 21 from by omega), (show Im (r12.toInt = 0) (AC (c 3) (c 6) (c 9) (c 10) (c 11) (c 12) (c 13) (c 23) (c 24) (c 44) (i 8).toInt (i 5).toInt (i 22).toInt v1.toInt w1.toInt w2.toInt) from fun h9 => ⟨fun e9 => by first | (exfalso; omega) | exact hr12_0 h9, fun e9 => by first | (exfalso; omega) | exact hr12_0 h9, fun e9 => by first | (exfalso; omega) | exact hr12_0 (by omega) | exact ⟨(hr12_0 h9).1, (hr12_0 h9).2.1⟩, fun e9 => by first | (exfalso; omega) | exact ⟨(hr12_0 h9).2.2.1, (hr12_0 h9).2.2.2⟩, fun e9 => by first | (exfalso; omega) | exact hr12_0 h9, fun e9 => by first | (exfalso; omega) | exact hr12_0 h9⟩)⟩, hI, fr_w hfi (by decide), fr_w hfc (by decide)⟩
  · refine lv_tableIn (off := 107) (tgt := 108) hx hb dX12_whyNot_1 (by omega) (by omega) (by rw [f1]; rfl) (by decide) ?_
    refine lv_aload_n hx hb dX12_whyNot_108 rfl (lv_at hl 0 rfl) ?_
    refine lv_iload_n hx hb dX12_whyNot_109 rfl (lv_at hl 1 rfl) ?_
    refine lv_iload_n hx hb dX12_whyNot_110 rfl (lv_at hl 2 rfl) ?_
    refine lv_iload_n hx hb dX12_whyNot_111 rfl (lv_at hl 3 rfl) ?_
    refine ro_calli (va_runV (As := [.int v1, .int w1, .int w2]) (rest := []) ⟨hx, hb, hml, hown, hts⟩ (s_X12_whyNotTurn l D s.heap.size o a t i q c d v1 w1 w2 hI (show 0 ≤ w1.toInt ∧ w1.toInt ≤ 29 from by omega) (show v1.toInt = 7 ∨ v1.toInt = 8 → 0 ≤ w2.toInt ∧ w2.toInt ≤ 29 from by omega) (show 5 ≤ v1.toInt ∧ v1.toInt ≤ 8 from by omega)) (cwV 3 hts gm_X12_whyNot_X12_whyNotTurn rfl rfl rfl (by decide +kernel) ⟨Nat.le_of_ble_eq_true rfl, Nat.le_of_ble_eq_true rfl⟩) (pA_V hK hP (ci := 12) (q0 := 0) rfl rfl) rfl rfl hl.1 rfl (lv_room (Nat.le_of_ble_eq_true rfl)) dX12_whyNot_112 ⟨Nat.le_of_ble_eq_true rfl, Nat.le_of_ble_eq_true rfl⟩) hS hA hP (fun r13 u13 H locs hw13 hP hS => ?_)
    have hw13 : (0 ≤ r13.toInt ∧ r13.toInt ≤ 18) := hw13
    exact rw_iret (i, q, c, d) hx hb hr hlocks hS (hK.sub (tys' := []) [] rfl) hP hD dX12_whyNot_115 ⟨⟨(show 0 ≤ r13.toInt ∧ r13.toInt ≤ 21 from by omega), (show Im (r13.toInt = 0) (AC (c 3) (c 6) (c 9) (c 10) (c 11) (c 12) (c 13) (c 23) (c 24) (c 44) (i 8).toInt (i 5).toInt (i 22).toInt v1.toInt w1.toInt w2.toInt) from fun h9 => ⟨fun e9 => by first | (exfalso; omega) | exact hr13_0 h9, fun e9 => by first | (exfalso; omega) | exact hr13_0 h9, fun e9 => by first | (exfalso; omega) | exact hr13_0 (by omega) | exact ⟨(hr13_0 h9).1, (hr13_0 h9).2.1⟩, fun e9 => by first | (exfalso; omega) | exact ⟨(hr13_0 h9).2.2.1, (hr13_0 h9).2.2.2⟩, fun e9 => by first | (exfalso; omega) | exact hr13_0 h9, fun e9 => by first | (exfalso; omega) | exact hr13_0 h9⟩)⟩, hI, fr_w hfi (by decide), fr_w hfc (by decide)⟩
  · refine lv_tableIn (off := 107) (tgt := 108) hx hb dX12_whyNot_1 (by omega) (by omega) (by rw [f1]; rfl) (by decide) ?_
    refine lv_aload_n hx hb dX12_whyNot_108 rfl (lv_at hl 0 rfl) ?_
    refine lv_iload_n hx hb dX12_whyNot_109 rfl (lv_at hl 1 rfl) ?_
    refine lv_iload_n hx hb dX12_whyNot_110 rfl (lv_at hl 2 rfl) ?_
    refine lv_iload_n hx hb dX12_whyNot_111 rfl (lv_at hl 3 rfl) ?_
    refine ro_calli (va_runV (As := [.int v1, .int w1, .int w2]) (rest := []) ⟨hx, hb, hml, hown, hts⟩ (s_X12_whyNotTurn l D s.heap.size o a t i q c d v1 w1 w2 hI (show 0 ≤ w1.toInt ∧ w1.toInt ≤ 29 from by omega) (show v1.toInt = 7 ∨ v1.toInt = 8 → 0 ≤ w2.toInt ∧ w2.toInt ≤ 29 from by omega) (show 5 ≤ v1.toInt ∧ v1.toInt ≤ 8 from by omega)) (cwV 3 hts gm_X12_whyNot_X12_whyNotTurn rfl rfl rfl (by decide +kernel) ⟨Nat.le_of_ble_eq_true rfl, Nat.le_of_ble_eq_true rfl⟩) (pA_V hK hP (ci := 12) (q0 := 0) rfl rfl) rfl rfl hl.1 rfl (lv_room (Nat.le_of_ble_eq_true rfl)) dX12_whyNot_112 ⟨Nat.le_of_ble_eq_true rfl, Nat.le_of_ble_eq_true rfl⟩) hS hA hP (fun r14 u14 H locs hw14 hP hS => ?_)
    have hw14 : (0 ≤ r14.toInt ∧ r14.toInt ≤ 18) := hw14
    exact rw_iret (i, q, c, d) hx hb hr hlocks hS (hK.sub (tys' := []) [] rfl) hP hD dX12_whyNot_115 ⟨⟨(show 0 ≤ r14.toInt ∧ r14.toInt ≤ 21 from by omega), (show Im (r14.toInt = 0) (AC (c 3) (c 6) (c 9) (c 10) (c 11) (c 12) (c 13) (c 23) (c 24) (c 44) (i 8).toInt (i 5).toInt (i 22).toInt v1.toInt w1.toInt w2.toInt) from fun h9 => ⟨fun e9 => by first | (exfalso; omega) | exact hr14_0 h9, fun e9 => by first | (exfalso; omega) | exact hr14_0 h9, fun e9 => by first | (exfalso; omega) | exact hr14_0 (by omega) | exact ⟨(hr14_0 h9).1, (hr14_0 h9).2.1⟩, fun e9 => by first | (exfalso; omega) | exact ⟨(hr14_0 h9).2.2.1, (hr14_0 h9).2.2.2⟩, fun e9 => by first | (exfalso; omega) | exact hr14_0 h9, fun e9 => by first | (exfalso; omega) | exact hr14_0 h9⟩)⟩, hI, fr_w hfi (by decide), fr_w hfc (by decide)⟩
  · refine lv_tableIn (off := 107) (tgt := 108) hx hb dX12_whyNot_1 (by omega) (by omega) (by rw [f1]; rfl) (by decide) ?_
    refine lv_aload_n hx hb dX12_whyNot_108 rfl (lv_at hl 0 rfl) ?_
    refine lv_iload_n hx hb dX12_whyNot_109 rfl (lv_at hl 1 rfl) ?_
    refine lv_iload_n hx hb dX12_whyNot_110 rfl (lv_at hl 2 rfl) ?_
    refine lv_iload_n hx hb dX12_whyNot_111 rfl (lv_at hl 3 rfl) ?_
    refine ro_calli (va_runV (As := [.int v1, .int w1, .int w2]) (rest := []) ⟨hx, hb, hml, hown, hts⟩ (s_X12_whyNotTurn l D s.heap.size o a t i q c d v1 w1 w2 hI (show 0 ≤ w1.toInt ∧ w1.toInt ≤ 29 from by omega) (show v1.toInt = 7 ∨ v1.toInt = 8 → 0 ≤ w2.toInt ∧ w2.toInt ≤ 29 from by omega) (show 5 ≤ v1.toInt ∧ v1.toInt ≤ 8 from by omega)) (cwV 3 hts gm_X12_whyNot_X12_whyNotTurn rfl rfl rfl (by decide +kernel) ⟨Nat.le_of_ble_eq_true rfl, Nat.le_of_ble_eq_true rfl⟩) (pA_V hK hP (ci := 12) (q0 := 0) rfl rfl) rfl rfl hl.1 rfl (lv_room (Nat.le_of_ble_eq_true rfl)) dX12_whyNot_112 ⟨Nat.le_of_ble_eq_true rfl, Nat.le_of_ble_eq_true rfl⟩) hS hA hP (fun r15 u15 H locs hw15 hP hS => ?_)
    have hw15 : (0 ≤ r15.toInt ∧ r15.toInt ≤ 18) := hw15
    exact rw_iret (i, q, c, d) hx hb hr hlocks hS (hK.sub (tys' := []) [] rfl) hP hD dX12_whyNot_115 ⟨⟨(show 0 ≤ r15.toInt ∧ r15.toInt ≤ 21 from by omega), (show Im (r15.toInt = 0) (AC (c 3) (c 6) (c 9) (c 10) (c 11) (c 12) (c 13) (c 23) (c 24) (c 44) (i 8).toInt (i 5).toInt (i 22).toInt v1.toInt w1.toInt w2.toInt) from fun h9 => ⟨fun e9 => by first | (exfalso; omega) | exact hr15_0 h9, fun e9 => by first | (exfalso; omega) | exact hr15_0 h9, fun e9 => by first | (exfalso; omega) | exact hr15_0 (by omega) | exact ⟨(hr15_0 h9).1, (hr15_0 h9).2.1⟩, fun e9 => by first | (exfalso; omega) | exact ⟨(hr15_0 h9).2.2.1, (hr15_0 h9).2.2.2⟩, fun e9 => by first | (exfalso; omega) | exact hr15_0 h9, fun e9 => by first | (exfalso; omega) | exact hr15_0 h9⟩)⟩, hI, fr_w hfi (by decide), fr_w hfc (by decide)⟩
  · refine lv_tableIn (off := 115) (tgt := 116) hx hb dX12_whyNot_1 (by omega) (by omega) (by rw [f1]; rfl) (by decide) ?_
    refine lv_aload_n hx hb dX12_whyNot_116 rfl (lv_at hl 0 rfl) ?_
    refine lv_iload_n hx hb dX12_whyNot_117 rfl (lv_at hl 2 rfl) ?_
    have rb22_i : (i 22).toInt = -9 ∨ (0 ≤ (i 22).toInt ∧ (i 22).toInt ≤ 29) := hI.1 22
    refine ro_calli (va_runV (As := [.int w1]) (rest := []) ⟨hx, hb, hml, hown, hts⟩ (s_X12_holds l D s.heap.size o a t i q c d w1 hI (show 0 ≤ w1.toInt ∧ w1.toInt ≤ 29 from by omega)) (cwV 1 hts gm_X12_whyNot_X12_holds rfl rfl rfl (by decide +kernel) ⟨Nat.le_of_ble_eq_true rfl, Nat.le_of_ble_eq_true rfl⟩) (pA_V hK hP (ci := 12) (q0 := 0) rfl rfl) rfl rfl hl.1 rfl (lv_room (Nat.le_of_ble_eq_true rfl)) dX12_whyNot_118 ⟨Nat.le_of_ble_eq_true rfl, Nat.le_of_ble_eq_true rfl⟩) hS hA hP (fun r16 u16 H locs hw16 hP hS => ?_)
    have hw16 : ((0 ≤ r16.toInt ∧ r16.toInt ≤ 1) ∧ (Im (r16.toInt = 1) ((c 23 w1.toNatClampNeg).toInt = 2 ∧ (c 24 w1.toNatClampNeg).toInt = (i 22).toInt))) := hw16
    obtain ⟨hw16, hr16_0⟩ := hw16
    have hr16_0 : Im (r16.toInt = 1) ((c 23 w1.toNatClampNeg).toInt = 2 ∧ (c 24 w1.toNatClampNeg).toInt = (i 22).toInt) := hr16_0
    refine lv_if_ne (tgt := 129) hx hb dX12_whyNot_121 (by decide) (fun c17 => ?_) (fun c17 => ?_)
    · have f17 := mt (ti_eq (a := r16.toInt) (b := 0) rfl (by decide)).mpr c17
      refine lv_aload_n hx hb dX12_whyNot_129 rfl (lv_at hl 0 rfl) ?_
      refine lv_iload_n hx hb dX12_whyNot_130 rfl (lv_at hl 2 rfl) ?_
      refine lv_iconst (v := 4) hx hb dX12_whyNot_131 (by decide) ?_
      refine ro_calli (va_runV (As := [.int w1, .int 4]) (rest := []) ⟨hx, hb, hml, hown, hts⟩ (s_X12_saidFlag l D H.size o a t i q c d w1 4 hI (show 0 ≤ w1.toInt ∧ w1.toInt ≤ 29 from by have h91 : (4 : Int32).toInt = 4 := (by decide); omega) (show 0 ≤ 4 ∧ 4 ≤ 5 from by have h91 : (4 : Int32).toInt = 4 := (by decide); omega)) (cwV 2 hts gm_X12_whyNot_X12_saidFlag rfl rfl rfl (by decide +kernel) ⟨Nat.le_of_ble_eq_true rfl, Nat.le_of_ble_eq_true rfl⟩) (pA_V hK hP (ci := 12) (q0 := 0) rfl rfl) rfl rfl hl.1 rfl (lv_room (Nat.le_of_ble_eq_true rfl)) dX12_whyNot_132 ⟨Nat.le_of_ble_eq_true rfl, Nat.le_of_ble_eq_true rfl⟩) hS hA hP (fun r18 u18 H locs hw18 hP hS => ?_)
      have hw18 : (r18.toInt = -9 ∨ (0 ≤ r18.toInt ∧ r18.toInt ≤ 1)) := hw18
      refine lv_iconst (v := 1) hx hb dX12_whyNot_135 (by decide) ?_
      refine lv_icmp_ne (tgt := 143) hx hb dX12_whyNot_136 (by decide) (fun c19 => ?_) (fun c19 => ?_)
      · have f19 := mt (ti_eq (a := r18.toInt) (b := 1) rfl (by decide)).mpr c19
        refine lv_bipush (v := 19) hx hb dX12_whyNot_143 (by decide) ?_
        exact rw_iret (i, q, c, d) hx hb hr hlocks hS (hK.sub (tys' := []) [] rfl) hP hD dX12_whyNot_145 ⟨⟨(show 0 ≤ (19 : Int32).toInt ∧ (19 : Int32).toInt ≤ 21 from by have h9 : (19 : Int32).toInt = 19 := (by decide); omega), (show Im ((19 : Int32).toInt = 0) (AC (c 3) (c 6) (c 9) (c 10) (c 11) (c 12) (c 13) (c 23) (c 24) (c 44) (i 8).toInt (i 5).toInt (i 22).toInt v1.toInt w1.toInt w2.toInt) from fun h9 => absurd h9 (by decide))⟩, hI, fr_w hfi (by decide), fr_w hfc (by decide)⟩
      · have f19 := (ti_eq (a := r18.toInt) (b := 1) rfl (by decide)).mp c19
        refine lv_iconst (v := 0) hx hb dX12_whyNot_139 (by decide) ?_
        refine lv_goto (tgt := 145) hx hb dX12_whyNot_140 (by decide) ?_
        exact rw_iret (i, q, c, d) hx hb hr hlocks hS (hK.sub (tys' := []) [] rfl) hP hD dX12_whyNot_145 ⟨⟨(show 0 ≤ (0 : Int32).toInt ∧ (0 : Int32).toInt ≤ 21 from by have h9 : (0 : Int32).toInt = 0 := (by decide); omega), (show Im ((0 : Int32).toInt = 0) (AC (c 3) (c 6) (c 9) (c 10) (c 11) (c 12) (c 13) (c 23) (c 24) (c 44) (i 8).toInt (i 5).toInt (i 22).toInt v1.toInt w1.toInt w2.toInt) from fun h9 => ⟨fun e9 => by first | (exfalso; omega) | exact hr16_0 h9, fun e9 => by first | (exfalso; omega) | exact hr16_0 h9, fun e9 => by first | (exfalso; omega) | exact hr16_0 (by omega) | exact ⟨(hr16_0 h9).1, (hr16_0 h9).2.1⟩, fun e9 => by first | (exfalso; omega) | exact ⟨(hr16_0 h9).2.2.1, (hr16_0 h9).2.2.2⟩, fun e9 => by first | (exfalso; omega) | exact hr16_0 h9, fun e9 => by first | (exfalso; omega) | exact hr16_0 h9⟩)⟩, hI, fr_w hfi (by decide), fr_w hfc (by decide)⟩
    · have f17 := (ti_eq (a := r16.toInt) (b := 0) rfl (by decide)).mp c17
      refine lv_bipush (v := 11) hx hb dX12_whyNot_124 (by decide) ?_
      refine lv_goto (tgt := 145) hx hb dX12_whyNot_126 (by decide) ?_
      exact rw_iret (i, q, c, d) hx hb hr hlocks hS (hK.sub (tys' := []) [] rfl) hP hD dX12_whyNot_145 ⟨⟨(show 0 ≤ (11 : Int32).toInt ∧ (11 : Int32).toInt ≤ 21 from by have h9 : (11 : Int32).toInt = 11 := (by decide); omega), (show Im ((11 : Int32).toInt = 0) (AC (c 3) (c 6) (c 9) (c 10) (c 11) (c 12) (c 13) (c 23) (c 24) (c 44) (i 8).toInt (i 5).toInt (i 22).toInt v1.toInt w1.toInt w2.toInt) from fun h9 => absurd h9 (by decide))⟩, hI, fr_w hfi (by decide), fr_w hfc (by decide)⟩
  · refine lv_tableIn (off := 145) (tgt := 146) hx hb dX12_whyNot_1 (by omega) (by omega) (by rw [f1]; rfl) (by decide) ?_
    refine lv_aload_n hx hb dX12_whyNot_146 rfl (lv_at hl 0 rfl) ?_
    refine lv_iload_n hx hb dX12_whyNot_147 rfl (lv_at hl 2 rfl) ?_
    have rb22_i : (i 22).toInt = -9 ∨ (0 ≤ (i 22).toInt ∧ (i 22).toInt ≤ 29) := hI.1 22
    refine ro_calli (va_runV (As := [.int w1]) (rest := []) ⟨hx, hb, hml, hown, hts⟩ (s_X12_whyNotEnter l D s.heap.size o a t i q c d w1 hI (show 0 ≤ w1.toInt ∧ w1.toInt < ((i 5) : Int32).toInt from by omega) hs_T hs_C) (cwV 1 hts gm_X12_whyNot_X12_whyNotEnter rfl rfl rfl (by decide +kernel) ⟨Nat.le_of_ble_eq_true rfl, Nat.le_of_ble_eq_true rfl⟩) (pA_V hK hP (ci := 12) (q0 := 0) rfl rfl) rfl rfl hl.1 rfl (lv_room (Nat.le_of_ble_eq_true rfl)) dX12_whyNot_148 ⟨Nat.le_of_ble_eq_true rfl, Nat.le_of_ble_eq_true rfl⟩) hS hA hP (fun r20 u20 H locs hw20 hP hS => ?_)
    have hw20 : ((0 ≤ r20.toInt ∧ r20.toInt ≤ 20) ∧ (Im (r20.toInt = 0) ((Kd (c 3) (c 6) w1.toInt 3 ∨ Kd (c 3) (c 6) w1.toInt 4) ∧ ¬ Ch (nF (i 5).toInt (c 23) (c 24)) (nF (i 5).toInt (c 23) (c 24) w1.toInt) (i 22).toInt ∧ (c 44 w1.toNatClampNeg).toInt = 1))) := hw20
    obtain ⟨hw20, hr20_0⟩ := hw20
    have hr20_0 : Im (r20.toInt = 0) ((Kd (c 3) (c 6) w1.toInt 3 ∨ Kd (c 3) (c 6) w1.toInt 4) ∧ ¬ Ch (nF (i 5).toInt (c 23) (c 24)) (nF (i 5).toInt (c 23) (c 24) w1.toInt) (i 22).toInt ∧ (c 44 w1.toNatClampNeg).toInt = 1) := hr20_0
    exact rw_iret (i, q, c, d) hx hb hr hlocks hS (hK.sub (tys' := []) [] rfl) hP hD dX12_whyNot_151 ⟨⟨(show 0 ≤ r20.toInt ∧ r20.toInt ≤ 21 from by omega), (show Im (r20.toInt = 0) (AC (c 3) (c 6) (c 9) (c 10) (c 11) (c 12) (c 13) (c 23) (c 24) (c 44) (i 8).toInt (i 5).toInt (i 22).toInt v1.toInt w1.toInt w2.toInt) from fun h9 => ⟨fun e9 => by first | (exfalso; omega) | exact hr20_0 h9, fun e9 => by first | (exfalso; omega) | exact hr20_0 h9, fun e9 => by first | (exfalso; omega) | exact hr20_0 (by omega) | exact ⟨(hr20_0 h9).1, (hr20_0 h9).2.1⟩, fun e9 => by first | (exfalso; omega) | exact ⟨(hr20_0 h9).2.2.1, (hr20_0 h9).2.2.2⟩, fun e9 => by first | (exfalso; omega) | exact hr20_0 h9, fun e9 => by first | (exfalso; omega) | exact hr20_0 h9⟩)⟩, hI, fr_w hfi (by decide), fr_w hfc (by decide)⟩
  · refine lv_tableIn (off := 151) (tgt := 152) hx hb dX12_whyNot_1 (by omega) (by omega) (by rw [f1]; rfl) (by decide) ?_
    refine lv_aload_n hx hb dX12_whyNot_152 rfl (lv_at hl 0 rfl) ?_
    have rb22_i : (i 22).toInt = -9 ∨ (0 ≤ (i 22).toInt ∧ (i 22).toInt ≤ 29) := hI.1 22
    refine ro_calli (va_runV (As := []) (rest := []) ⟨hx, hb, hml, hown, hts⟩ (s_X12_whyNotLeave l D s.heap.size o a t i q c d  hI hs_T) (cwV 0 hts gm_X12_whyNot_X12_whyNotLeave rfl rfl rfl (by decide +kernel) ⟨Nat.le_of_ble_eq_true rfl, Nat.le_of_ble_eq_true rfl⟩) (pA_V hK hP (ci := 12) (q0 := 0) rfl rfl) rfl rfl hl.1 rfl (lv_room (Nat.le_of_ble_eq_true rfl)) dX12_whyNot_153 ⟨Nat.le_of_ble_eq_true rfl, Nat.le_of_ble_eq_true rfl⟩) hS hA hP (fun r21 u21 H locs hw21 hP hS => ?_)
    have hw21 : ((0 ≤ r21.toInt ∧ r21.toInt ≤ 21) ∧ (Im (r21.toInt = 0) (¬ (c 23 (c 24 (i 22).toInt.toNat).toInt.toNat).toInt = -9))) := hw21
    obtain ⟨hw21, hr21_0⟩ := hw21
    have hr21_0 : Im (r21.toInt = 0) (¬ (c 23 (c 24 (i 22).toInt.toNat).toInt.toNat).toInt = -9) := hr21_0
    exact rw_iret (i, q, c, d) hx hb hr hlocks hS (hK.sub (tys' := []) [] rfl) hP hD dX12_whyNot_156 ⟨⟨(show 0 ≤ r21.toInt ∧ r21.toInt ≤ 21 from by omega), (show Im (r21.toInt = 0) (AC (c 3) (c 6) (c 9) (c 10) (c 11) (c 12) (c 13) (c 23) (c 24) (c 44) (i 8).toInt (i 5).toInt (i 22).toInt v1.toInt w1.toInt w2.toInt) from fun h9 => ⟨fun e9 => by first | (exfalso; omega) | exact hr21_0 h9, fun e9 => by first | (exfalso; omega) | exact hr21_0 h9, fun e9 => by first | (exfalso; omega) | exact hr21_0 (by omega) | exact ⟨(hr21_0 h9).1, (hr21_0 h9).2.1⟩, fun e9 => by first | (exfalso; omega) | exact ⟨(hr21_0 h9).2.2.1, (hr21_0 h9).2.2.2⟩, fun e9 => by first | (exfalso; omega) | exact hr21_0 h9, fun e9 => by first | (exfalso; omega) | exact hr21_0 h9⟩)⟩, hI, fr_w hfi (by decide), fr_w hfc (by decide)⟩

def wm_X12_acts : List Cond := .code yX12_acts cX12_acts 5 none :: (([.fieldLink RX12 53 "TalePlayModel" "nAt" "[I", .fieldLink RX12 155 "TalePlayModel" "player" "I", .methodLink RX12 281 yX12_findExit, .instanceMethod yX12_findExit, .selects RX12 yX12_findExit yX12_findExit, .initialized RX12, .code yX12_findExit cX12_findExit 6 (some .boolean), .fieldLink RX12 263 "TalePlayModel" "leads" "I", .fieldLink RX12 266 "TalePlayModel" "byDoor" "I", .fieldLink RX12 269 "TalePlayModel" "bySentence" "I", .fieldLink RX12 272 "TalePlayModel" "isImplied" "Z", .fieldLink RX12 202 "TalePlayModel" "sentences" "I", .fieldLink RX12 28 "TalePlayModel" "left" "[I", .fieldLink RX12 31 "TalePlayModel" "middle" "[I", .methodLink RX12 184 yX12_isOf, .instanceMethod yX12_isOf, .selects RX12 yX12_isOf yX12_isOf, .code yX12_isOf cX12_isOf 4 (some .boolean), .fieldLink RX12 19 "TalePlayModel" "kindOf" "[I", .fieldLink RX12 13 "TalePlayModel" "parentOf" "[I", .methodLink RX12 276 yX12_otherSide, .instanceMethod yX12_otherSide, .selects RX12 yX12_otherSide yX12_otherSide, .code yX12_otherSide cX12_otherSide 4 (some .int), .fieldLink RX12 37 "TalePlayModel" "isSaid" "[Z", .fieldLink RX12 25 "TalePlayModel" "form" "[I", .fieldLink RX12 34 "TalePlayModel" "right" "[I", .methodLink RX12 381 yX12_lay, .instanceMethod yX12_lay, .selects RX12 yX12_lay yX12_lay, .code yX12_lay cX12_lay 4 none, .fieldLink RX12 50 "TalePlayModel" "nForm" "[I", .fieldLink RX12 56 "TalePlayModel" "nOpen" "[Z", .fieldLink RX12 59 "TalePlayModel" "nLocked" "[Z", .fieldLink RX12 98 "TalePlayModel" "isBox" "[Z"] : List Cond) ++ wsX120)
set_option maxRecDepth 20000 in
theorem gm_X12_acts_X12_findExit : GoodIn wm_X12_acts (wsV RX12 281 RX12 yX12_findExit wm_X12_findExit) := goodIn_app (goodIn_of _ (by decide +kernel)) (goodIn_r _ [7, 8, 9, 10, 11, 12, 13, 14, 15, 16, 17, 6, 18, 19, 20, 21, 22, 23, 24, 25, 26, 27, 36, 37, 38, 39, 40, 41, 42, 43, 44, 45, 46, 47, 48, 49, 50, 51, 52, 53, 54, 55, 56, 57, 58, 59, 60, 61, 62, 63, 64, 65, 66, 67, 68, 69, 70, 71, 72, 73, 74, 75, 76, 77, 78, 79, 80, 81, 82, 83, 84, 85, 86, 87, 88, 89, 90, 91, 92, 93, 94, 95, 96, 97, 98, 99, 100, 101, 102, 103, 104] (by decide +kernel) (by decide +kernel))
set_option maxRecDepth 20000 in
theorem gm_X12_acts_X12_lay : GoodIn wm_X12_acts (wsV RX12 381 RX12 yX12_lay wm_X12_lay) := goodIn_app (goodIn_of _ (by decide +kernel)) (goodIn_r _ [31, 32, 1, 36, 37, 38, 39, 40, 41, 42, 43, 44, 45, 46, 47, 48, 49, 50, 51, 52, 53, 54, 55, 56, 57, 58, 59, 60, 61, 62, 63, 64, 65, 66, 67, 68, 69, 70, 71, 72, 73, 74, 75, 76, 77, 78, 79, 80, 81, 82, 83, 84, 85, 86, 87, 88, 89, 90, 91, 92, 93, 94, 95, 96, 97, 98, 99, 100, 101, 102, 103, 104] (by decide +kernel) (by decide +kernel))
set_option maxHeartbeats 4000000 in
set_option maxRecDepth 100000 in
theorem s_X12_acts (l : Launch) (D : va_G) (sz : Nat) (o : Nat) (a : Nat → Nat) (t : Nat → ClassId) (i : Nat → Int32) (q : Int64) (c : Nat → Nat → Int32) (d : Nat → Nat → Int64) (v1 : Int32) (w1 : Int32) (w2 : Int32) (hI : mInv i c) (hv1 : 0 ≤ v1.toInt ∧ v1.toInt ≤ 12) (hx0 : v1.toInt = 0 → 0 ≤ w1.toInt ∧ w1.toInt ≤ 9) (hx1 : 1 ≤ v1.toInt ∧ v1.toInt ≤ 10 → 0 ≤ w1.toInt ∧ w1.toInt < (i 5).toInt) (hy : v1.toInt = 3 ∨ v1.toInt = 4 ∨ v1.toInt = 7 ∨ v1.toInt = 8 → 0 ≤ w2.toInt ∧ w2.toInt < (i 5).toInt) (hs_T : TI (i 5).toInt (fun z => Kd (c 3) (c 6) z 0) (i 22).toInt (c 23) (c 24)) (hs_C : Cc (c 3) (c 6) (c 47) (c 48) (c 49) (i 5).toInt) (hs_S : SJ (c 3) (c 6) (c 9) (c 10) (c 11) (c 13) (i 2).toInt (i 5).toInt (i 8).toInt) (hs_P : Kd (c 3) (c 6) (i 22).toInt 5) (hs_R : RQ (c 44) (c 49) (nF (i 5).toInt (c 23) (c 24)) (i 22).toInt (i 5).toInt) (hs_A : AC (c 3) (c 6) (c 9) (c 10) (c 11) (c 12) (c 13) (c 23) (c 24) (c 44) (i 8).toInt (i 5).toInt (i 22).toInt v1.toInt w1.toInt w2.toInt) : Met l yX12_acts wm_X12_acts ({ frames := 2, cells := 0, slots := 0, locals := 48 }) (va_Pc [.ref o, .int v1, .int w1, .int w2] (pB D sz (mW o a t i q c d) (mT t))) (va_Qv (fun (u : MS) => True ∧ mInv u.1 u.2.2.1 ∧ (∀ k, k ∉ ([16, 17, 18, 19] : List Nat) → u.1 k = i k) ∧ (∀ k, k ∉ ([23, 24, 25, 26] : List Nat) → u.2.2.1 k = c k) ∧ (TI (i 5).toInt (fun z => Kd (c 3) (c 6) z 0) (i 22).toInt (u.2.2.1 23) (u.2.2.1 24))) (oC D (va_A (mW o a t i q c d) sz) (fun u : MS => mW o a t u.1 u.2.1 u.2.2.1 u.2.2.2) (fun _ => [])) (va_A (mW o a t i q c d) sz)) 0 0 (va_A (mW o a t i q c d) sz) := by
  refine Met.ofW (cc := cX12_acts) (maxL := 5) (ret := none) (by decide) rfl ?_
  intro p e s m args below meth cd s₁ B hml hv
  obtain ⟨rfl, hsz, hP, hK, hD0⟩ := hv
  have hx := B.exec
  have hb := B.bytes
  have hr := B.returns
  have hts := atoms_spec (ws := wm_X12_acts) B.pre
  have hown : s.vm.findClass RX12 = some m.cls := findClass_of_methodNamed B.named
  have hlocks := B.notSynchronized
  subst hsz
  have hD := hD0.self (sz := s.heap.size)
  generalize hAe : va_A (mW o a t i q c d) s.heap.size = A at hD ⊢
  have hA : ∀ q : Nat, s.heap.size ≤ q → A q := fun q h => by rw [← hAe]; exact Or.inr h
  have hS : va_S A s.heap s.heap [] := va_S.rf
  have hfi : ∀ k, k ∉ ([] : List Nat) → i k = i k := fun _ _ => rfl
  have hfc : ∀ k, k ∉ ([] : List Nat) → c k = c k := fun _ _ => rfl
  have hl := lv_entry ([.ref o, .int v1, .int w1, .int w2]) (n := 5) (Nat.le_of_ble_eq_true rfl)
  rw [lg_entry_eq]
  generalize (lg_sl ([.ref o, .int v1, .int w1, .int w2]) ++ List.replicate (5 - (lg_sl ([.ref o, .int v1, .int w1, .int w2])).length) Slot.unset).toArray = ls at hl ⊢
  have hl : lv_has ls 5 [(0, .ref o), (1, .int v1), (2, .int w1), (3, .int w2)] := hl
  have rb5_i : 0 ≤ (i 5).toInt ∧ (i 5).toInt ≤ 30 := hI.1 5
  have rb22_i : (i 22).toInt = -9 ∨ (0 ≤ (i 22).toInt ∧ (i 22).toInt ≤ 29) := hI.1 22
  have hTt := hs_T
  obtain ⟨⟨hp0, hp1, hp2⟩, hT2, hT3, ⟨rk, hrk⟩, rr, hq0, hq1, hq2, hq3⟩ := hTt
  have hsp : Sp (nF (i 5).toInt (c 23) (c 24)) := nF_Sp (by omega) hT2
  have hpl := TI_p hs_T
  have hpa : 0 ≤ (c 24 (i 22).toNatClampNeg).toInt ∧ (c 24 (i 22).toNatClampNeg).toInt < (i 5).toInt := hT2 _ hp0 hp1 hpl
  have h6 := K6_of hI
  have hI0 := hI
  refine lv_iload_n hx hb dX12_acts_0 rfl (lv_at hl 1 rfl) ?_
  rcases (show (v1.toInt < 0 ∨ 11 < v1.toInt) ∨ v1.toInt = 0 ∨ v1.toInt = 1 ∨ v1.toInt = 2 ∨ v1.toInt = 3 ∨ v1.toInt = 4 ∨ v1.toInt = 5 ∨ v1.toInt = 6 ∨ v1.toInt = 7 ∨ v1.toInt = 8 ∨ v1.toInt = 9 ∨ v1.toInt = 10 ∨ v1.toInt = 11 by omega) with f1 | f1 | f1 | f1 | f1 | f1 | f1 | f1 | f1 | f1 | f1 | f1 | f1
  · refine lv_tableOut (tgt := 272) hx hb dX12_acts_1 f1 (by decide) ?_
    exact rw_vret (i, q, c, d) hx hb hr hlocks hS (hK.sub (tys' := []) [] rfl) hP hD dX12_acts_272 ⟨trivial, hI, fr_w hfi (by decide), fr_w hfc (by decide), (show TI (i 5).toInt (fun z => Kd (c 3) (c 6) z 0) (i 22).toInt (c 23) (c 24) from hs_T)⟩
  · refine lv_tableIn (off := 63) (tgt := 64) hx hb dX12_acts_1 (by omega) (by omega) (by rw [f1]; rfl) (by decide) ?_
    refine lv_aload_n hx hb dX12_acts_64 rfl (lv_at hl 0 rfl) ?_
    refine lv_aload_n hx hb dX12_acts_65 rfl (lv_at hl 0 rfl) ?_
    refine mget_24 hx hb hts (fun _ h => List.mem_cons_of_mem _ (List.mem_append_right _ h)) hown hK hP (hts (.fieldLink RX12 53 "TalePlayModel" "nAt" "[I") (by decide +kernel)) dX12_acts_66 ?_
    refine lv_aload_n hx hb dX12_acts_69 rfl (lv_at hl 0 rfl) ?_
    refine mget_22 (v := (i 22)) rfl hx hb hts (fun _ h => List.mem_cons_of_mem _ (List.mem_append_right _ h)) hown hK hP (hts (.fieldLink RX12 155 "TalePlayModel" "player" "I") (by decide +kernel)) dX12_acts_70 ?_
    refine mld_24 hx hb hK hP (vp_in_iff.mpr (by have h9 : (i 22).toInt = (i 22).toInt := rfl; omega)) dX12_acts_73 (fun x2 ex2 => ?_)
    have rx2 : x2.toInt = -9 ∨ (0 ≤ x2.toInt ∧ x2.toInt ≤ 29) := by rw [ex2]; exact hI.2 24 _
    have gx2 : (c 24 ((i 22) : Int32).toNatClampNeg).toInt = x2.toInt := by rw [ex2]
    refine lv_iload_n hx hb dX12_acts_74 rfl (lv_at hl 2 rfl) ?_
    have rb8_i : 0 ≤ (i 8).toInt ∧ (i 8).toInt ≤ 200 := hI.1 8
    refine al_calli (va_runV (As := [.int x2, .int w1]) (rest := []) ⟨hx, hb, hml, hown, hts⟩ (s_X12_findExit l D s.heap.size o a t i q c d x2 w1 hI (show 0 ≤ x2.toInt ∧ x2.toInt ≤ 29 from by omega) (show 0 ≤ w1.toInt ∧ w1.toInt ≤ 9 from by omega)) (cwV 2 hts gm_X12_acts_X12_findExit rfl rfl rfl (by decide +kernel) ⟨Nat.le_of_ble_eq_true rfl, Nat.le_of_ble_eq_true rfl⟩) (pB_V hK hP hD (ci := 12) (q0 := 0) rfl rfl) rfl rfl hl.1 rfl (lv_room (Nat.le_of_ble_eq_true rfl)) dX12_acts_75 ⟨Nat.le_of_ble_eq_true rfl, Nat.le_of_ble_eq_true rfl⟩) hS hA hP hD (fun r3 u3 H locs hw3 hP hD hS => ?_)
    obtain ⟨i3, q3, c3, d3⟩ := u3
    have hw3 : (0 ≤ r3.toInt ∧ r3.toInt ≤ 1) ∧ mInv i3 c3 ∧ (∀ k, k ∉ ([16, 17, 18, 19] : List Nat) → i3 k = i k) ∧ (∀ k, k ∉ ([] : List Nat) → c3 k = c k) ∧ (LdR (c 3) (c 6) (c 9) (c 10) (c 11) (c 12) (c 13) (i 8).toInt x2.toInt w1.toInt (i3 16).toInt) := hw3
    obtain ⟨hw3, hI, hei3, hec3, hxp3_0⟩ := hw3
    have hxp3_0 : LdR (c 3) (c 6) (c 9) (c 10) (c 11) (c 12) (c 13) (i 8).toInt x2.toInt w1.toInt (i3 16).toInt := hxp3_0
    have hfi : ∀ k, k ∉ ([16, 17, 18, 19] : List Nat) → i3 k = i k := fr_z hfi hei3 (by decide) (by decide)
    have hfc : ∀ k, k ∉ ([] : List Nat) → c3 k = c k := fr_z hfc hec3 (by decide) (by decide)
    have hP : va_P D vwCl (mW o a t i3 q3 c3 d3) H := hP
    have hD : va_D A (mW o a t i3 q3 c3 d3) := hD
    refine lv_istore (lv' := [(4, .int r3), (0, .ref o), (1, .int v1), (2, .int w1), (3, .int w2)]) hx hb dX12_acts_78 hl (by decide) rfl (fun ls hl => ?_)
    have rb16_i3 : (i3 16).toInt = -9 ∨ (0 ≤ (i3 16).toInt ∧ (i3 16).toInt ≤ 29) := hI.1 16
    obtain ⟨w9, hL9, hne9⟩ := hs_A.1 (by omega)
    have hL8 : LdR (c 3) (c 6) (c 9) (c 10) (c 11) (c 12) (c 13) (i 8).toInt (c 24 (i 22).toInt.toNat).toInt w1.toInt (i3 16).toInt := by rw [show (c 24 (i 22).toInt.toNat).toInt = x2.toInt from gx2]; exact hxp3_0
    have e9 := LdR_u hL8 hL9
    have hr9 := LdR_r hL8 hs_S.2.1 (by omega)
    refine lv_aload_n hx hb dX12_acts_80 rfl (lv_at hl 1 rfl) ?_
    refine lv_aload_n hx hb dX12_acts_81 rfl (lv_at hl 1 rfl) ?_
    refine mget_22 (v := (i3 22)) rfl hx hb hts (fun _ h => List.mem_cons_of_mem _ (List.mem_append_right _ h)) hown hK hP (hts (.fieldLink RX12 155 "TalePlayModel" "player" "I") (by decide +kernel)) dX12_acts_82 ?_
    have rb22_i3 : (i3 22).toInt = -9 ∨ (0 ≤ (i3 22).toInt ∧ (i3 22).toInt ≤ 29) := hI.1 22
    have re22_i3 : (i3 22).toInt = (i 22).toInt := congrArg Int32.toInt (hfi 22 (by decide))
    refine lv_iconst (v := 0) hx hb dX12_acts_85 (by decide) ?_
    refine lv_aload_n hx hb dX12_acts_86 rfl (lv_at hl 1 rfl) ?_
    refine mget_16 (v := (i3 16)) rfl hx hb hts (fun _ h => List.mem_cons_of_mem _ (List.mem_append_right _ h)) hown hK hP (hts (.fieldLink RX12 263 "TalePlayModel" "leads" "I") (by decide +kernel)) dX12_acts_87 ?_
    refine al_callv (va_runV (As := [.int (i3 22), .int 0, .int (i3 16)]) (rest := []) ⟨hx, hb, hml, hown, hts⟩ (s_X12_lay l D H.size o a t i3 q3 c3 d3 (i3 22) 0 (i3 16) hI (show 0 ≤ (i3 22).toInt ∧ (i3 22).toInt ≤ 29 from by have h91 : (0 : Int32).toInt = 0 := (by decide); omega) (show 0 = -9 ∨ (0 ≤ 0 ∧ 0 ≤ 4) from by have h91 : (0 : Int32).toInt = 0 := (by decide); omega) (show (i3 16).toInt = -9 ∨ (0 ≤ (i3 16).toInt ∧ (i3 16).toInt ≤ 29) from by have h91 : (0 : Int32).toInt = 0 := (by decide); omega)) (cwV 3 hts gm_X12_acts_X12_lay rfl rfl rfl (by decide +kernel) ⟨Nat.le_of_ble_eq_true rfl, Nat.le_of_ble_eq_true rfl⟩) (pB_V hK hP hD (ci := 12) (q0 := 0) rfl rfl) rfl rfl hl.1 rfl (lv_room (Nat.le_of_ble_eq_true rfl)) dX12_acts_90 ⟨Nat.le_of_ble_eq_true rfl, Nat.le_of_ble_eq_true rfl⟩) hS hA hP hD (fun u4 H locs hw4 hP hD hS => ?_)
    obtain ⟨i4, q4, c4, d4⟩ := u4
    have hw4 : True ∧ mInv i4 c4 ∧ (∀ k, k ∉ ([] : List Nat) → i4 k = i3 k) ∧ (∀ k, k ∉ ([23, 24] : List Nat) → c4 k = c3 k) ∧ ((c4 23) = upd (c3 23) (i3 22).toNatClampNeg (0 : Int32)) ∧ ((c4 24) = upd (c3 24) (i3 22).toNatClampNeg (i3 16)) := hw4
    obtain ⟨hw4, hI, hei4, hec4, hxp4_0, hxp4_1⟩ := hw4
    have hxp4_0 : (c4 23) = upd (c 23) (i3 22).toNatClampNeg (0 : Int32) := by have h9 := hxp4_0; rw [show c3 23 = c 23 from hfc 23 (by decide)] at h9; exact h9
    have hxp4_1 : (c4 24) = upd (c 24) (i3 22).toNatClampNeg (i3 16) := by have h9 := hxp4_1; rw [show c3 24 = c 24 from hfc 24 (by decide)] at h9; exact h9
    have hfi : ∀ k, k ∉ ([16, 17, 18, 19] : List Nat) → i4 k = i k := fr_z hfi hei4 (by decide) (by decide)
    have hfc : ∀ k, k ∉ ([23, 24] : List Nat) → c4 k = c k := fr_z hfc hec4 (by decide) (by decide)
    have hP : va_P D vwCl (mW o a t i4 q4 c4 d4) H := hP
    have hD : va_D A (mW o a t i4 q4 c4 d4) := hD
    refine lv_goto (tgt := 272) hx hb dX12_acts_93 (by decide) ?_
    exact rw_vret (i4, q4, c4, d4) hx hb hr hlocks hS (hK.sub (tys' := []) [] rfl) hP hD dX12_acts_272 ⟨trivial, hI, fr_w hfi (by decide), fr_w hfc (by decide), (show TI (i 5).toInt (fun z => Kd (c 3) (c 6) z 0) (i 22).toInt (c4 23) (c4 24) from by rw [hxp4_0, hxp4_1]; exact TI_go (by omega) hs_T (by omega) (by decide) (by omega) hr9.2)⟩
  · refine lv_tableIn (off := 95) (tgt := 96) hx hb dX12_acts_1 (by omega) (by omega) (by rw [f1]; rfl) (by decide) ?_
    refine lv_aload_n hx hb dX12_acts_96 rfl (lv_at hl 0 rfl) ?_
    refine lv_iload_n hx hb dX12_acts_97 rfl (lv_at hl 2 rfl) ?_
    refine lv_iconst (v := 2) hx hb dX12_acts_98 (by decide) ?_
    refine lv_aload_n hx hb dX12_acts_99 rfl (lv_at hl 0 rfl) ?_
    refine mget_22 (v := (i 22)) rfl hx hb hts (fun _ h => List.mem_cons_of_mem _ (List.mem_append_right _ h)) hown hK hP (hts (.fieldLink RX12 155 "TalePlayModel" "player" "I") (by decide +kernel)) dX12_acts_100 ?_
    refine al_callv (va_runV (As := [.int w1, .int 2, .int (i 22)]) (rest := []) ⟨hx, hb, hml, hown, hts⟩ (s_X12_lay l D s.heap.size o a t i q c d w1 2 (i 22) hI (show 0 ≤ w1.toInt ∧ w1.toInt ≤ 29 from by have h91 : (2 : Int32).toInt = 2 := (by decide); omega) (show 2 = -9 ∨ (0 ≤ 2 ∧ 2 ≤ 4) from by have h91 : (2 : Int32).toInt = 2 := (by decide); omega) (show (i 22).toInt = -9 ∨ (0 ≤ (i 22).toInt ∧ (i 22).toInt ≤ 29) from by have h91 : (2 : Int32).toInt = 2 := (by decide); omega)) (cwV 3 hts gm_X12_acts_X12_lay rfl rfl rfl (by decide +kernel) ⟨Nat.le_of_ble_eq_true rfl, Nat.le_of_ble_eq_true rfl⟩) (pB_V hK hP hD (ci := 12) (q0 := 0) rfl rfl) rfl rfl hl.1 rfl (lv_room (Nat.le_of_ble_eq_true rfl)) dX12_acts_103 ⟨Nat.le_of_ble_eq_true rfl, Nat.le_of_ble_eq_true rfl⟩) hS hA hP hD (fun u5 H locs hw5 hP hD hS => ?_)
    obtain ⟨i5, q5, c5, d5⟩ := u5
    have hw5 : True ∧ mInv i5 c5 ∧ (∀ k, k ∉ ([] : List Nat) → i5 k = i k) ∧ (∀ k, k ∉ ([23, 24] : List Nat) → c5 k = c k) ∧ ((c5 23) = upd (c 23) w1.toNatClampNeg (2 : Int32)) ∧ ((c5 24) = upd (c 24) w1.toNatClampNeg (i 22)) := hw5
    obtain ⟨hw5, hI, hei5, hec5, hxp5_0, hxp5_1⟩ := hw5
    have hxp5_0 : (c5 23) = upd (c 23) w1.toNatClampNeg (2 : Int32) := hxp5_0
    have hxp5_1 : (c5 24) = upd (c 24) w1.toNatClampNeg (i 22) := hxp5_1
    have hfi : ∀ k, k ∉ ([] : List Nat) → i5 k = i k := fr_z hfi hei5 (by decide) (by decide)
    have hfc : ∀ k, k ∉ ([23, 24] : List Nat) → c5 k = c k := fr_z hfc hec5 (by decide) (by decide)
    have hP : va_P D vwCl (mW o a t i5 q5 c5 d5) H := hP
    have hD : va_D A (mW o a t i5 q5 c5 d5) := hD
    refine lv_goto (tgt := 272) hx hb dX12_acts_106 (by decide) ?_
    exact rw_vret (i5, q5, c5, d5) hx hb hr hlocks hS (hK.sub (tys' := []) [] rfl) hP hD dX12_acts_272 ⟨trivial, hI, fr_w hfi (by decide), fr_w hfc (by decide), (show TI (i 5).toInt (fun z => Kd (c 3) (c 6) z 0) (i 22).toInt (c5 23) (c5 24) from by rw [hxp5_0, hxp5_1]; exact TI_take (by omega) h6 hs_T (by omega) (hs_A.2.1 (by omega)).2.2 (hs_A.2.1 (by omega)).1 (hs_A.2.1 (by omega)).2.1 (by decide) rfl)⟩
  · refine lv_tableIn (off := 108) (tgt := 109) hx hb dX12_acts_1 (by omega) (by omega) (by rw [f1]; rfl) (by decide) ?_
    refine lv_aload_n hx hb dX12_acts_109 rfl (lv_at hl 0 rfl) ?_
    refine lv_iload_n hx hb dX12_acts_110 rfl (lv_at hl 2 rfl) ?_
    refine lv_aload_n hx hb dX12_acts_111 rfl (lv_at hl 0 rfl) ?_
    refine mget_23 hx hb hts (fun _ h => List.mem_cons_of_mem _ (List.mem_append_right _ h)) hown hK hP (hts (.fieldLink RX12 50 "TalePlayModel" "nForm" "[I") (by decide +kernel)) dX12_acts_112 ?_
    refine lv_aload_n hx hb dX12_acts_115 rfl (lv_at hl 0 rfl) ?_
    refine mget_22 (v := (i 22)) rfl hx hb hts (fun _ h => List.mem_cons_of_mem _ (List.mem_append_right _ h)) hown hK hP (hts (.fieldLink RX12 155 "TalePlayModel" "player" "I") (by decide +kernel)) dX12_acts_116 ?_
    refine mld_23 hx hb hK hP (vp_in_iff.mpr (by have h9 : (i 22).toInt = (i 22).toInt := rfl; omega)) dX12_acts_119 (fun x6 ex6 => ?_)
    have rx6 : x6.toInt = -9 ∨ (0 ≤ x6.toInt ∧ x6.toInt ≤ 4) := by rw [ex6]; exact hI.2 23 _
    have gx6 : (c 23 ((i 22) : Int32).toNatClampNeg).toInt = x6.toInt := by rw [ex6]
    refine lv_aload_n hx hb dX12_acts_120 rfl (lv_at hl 0 rfl) ?_
    refine mget_24 hx hb hts (fun _ h => List.mem_cons_of_mem _ (List.mem_append_right _ h)) hown hK hP (hts (.fieldLink RX12 53 "TalePlayModel" "nAt" "[I") (by decide +kernel)) dX12_acts_121 ?_
    refine lv_aload_n hx hb dX12_acts_124 rfl (lv_at hl 0 rfl) ?_
    refine mget_22 (v := (i 22)) rfl hx hb hts (fun _ h => List.mem_cons_of_mem _ (List.mem_append_right _ h)) hown hK hP (hts (.fieldLink RX12 155 "TalePlayModel" "player" "I") (by decide +kernel)) dX12_acts_125 ?_
    refine mld_24 hx hb hK hP (vp_in_iff.mpr (by have h9 : (i 22).toInt = (i 22).toInt := rfl; omega)) dX12_acts_128 (fun x7 ex7 => ?_)
    have rx7 : x7.toInt = -9 ∨ (0 ≤ x7.toInt ∧ x7.toInt ≤ 29) := by rw [ex7]; exact hI.2 24 _
    have gx7 : (c 24 ((i 22) : Int32).toNatClampNeg).toInt = x7.toInt := by rw [ex7]
    refine al_callv (va_runV (As := [.int w1, .int x6, .int x7]) (rest := []) ⟨hx, hb, hml, hown, hts⟩ (s_X12_lay l D s.heap.size o a t i q c d w1 x6 x7 hI (show 0 ≤ w1.toInt ∧ w1.toInt ≤ 29 from by omega) (show x6.toInt = -9 ∨ (0 ≤ x6.toInt ∧ x6.toInt ≤ 4) from by omega) (show x7.toInt = -9 ∨ (0 ≤ x7.toInt ∧ x7.toInt ≤ 29) from by omega)) (cwV 3 hts gm_X12_acts_X12_lay rfl rfl rfl (by decide +kernel) ⟨Nat.le_of_ble_eq_true rfl, Nat.le_of_ble_eq_true rfl⟩) (pB_V hK hP hD (ci := 12) (q0 := 0) rfl rfl) rfl rfl hl.1 rfl (lv_room (Nat.le_of_ble_eq_true rfl)) dX12_acts_129 ⟨Nat.le_of_ble_eq_true rfl, Nat.le_of_ble_eq_true rfl⟩) hS hA hP hD (fun u8 H locs hw8 hP hD hS => ?_)
    obtain ⟨i8, q8, c8, d8⟩ := u8
    have hw8 : True ∧ mInv i8 c8 ∧ (∀ k, k ∉ ([] : List Nat) → i8 k = i k) ∧ (∀ k, k ∉ ([23, 24] : List Nat) → c8 k = c k) ∧ ((c8 23) = upd (c 23) w1.toNatClampNeg x6) ∧ ((c8 24) = upd (c 24) w1.toNatClampNeg x7) := hw8
    obtain ⟨hw8, hI, hei8, hec8, hxp8_0, hxp8_1⟩ := hw8
    have hxp8_0 : (c8 23) = upd (c 23) w1.toNatClampNeg x6 := hxp8_0
    have hxp8_1 : (c8 24) = upd (c 24) w1.toNatClampNeg x7 := hxp8_1
    have hfi : ∀ k, k ∉ ([] : List Nat) → i8 k = i k := fr_z hfi hei8 (by decide) (by decide)
    have hfc : ∀ k, k ∉ ([23, 24] : List Nat) → c8 k = c k := fr_z hfc hec8 (by decide) (by decide)
    have hP : va_P D vwCl (mW o a t i8 q8 c8 d8) H := hP
    have hD : va_D A (mW o a t i8 q8 c8 d8) := hD
    refine lv_goto (tgt := 272) hx hb dX12_acts_132 (by decide) ?_
    exact rw_vret (i8, q8, c8, d8) hx hb hr hlocks hS (hK.sub (tys' := []) [] rfl) hP hD dX12_acts_272 ⟨trivial, hI, fr_w hfi (by decide), fr_w hfc (by decide), (show TI (i 5).toInt (fun z => Kd (c 3) (c 6) z 0) (i 22).toInt (c8 23) (c8 24) from by rw [hxp8_0, hxp8_1]; exact TI_held (by omega) hs_T (by omega) (by show ¬ (c 23 w1.toInt.toNat).toInt = -9; have h9 := (hs_A.2.2.1 (by omega)).1; omega) (hs_A.2.2.1 (by omega)).2 (by have h9 : ¬ (c 23 (i 22).toNatClampNeg).toInt = -9 := hpl; omega) (by omega) (TI_drop (by omega) hs_T (by omega) (by show ¬ (c 23 w1.toInt.toNat).toInt = -9; have h9 := (hs_A.2.2.1 (by omega)).1; omega) (hs_A.2.2.1 (by omega)).2 (show nF (i 5).toInt (c 23) (c 24) (i 22).toInt = x7.toInt by unfold nF; rw [if_pos ⟨hp0, hp1, hpl⟩]; exact gx7)))⟩
  · refine lv_tableIn (off := 134) (tgt := 135) hx hb dX12_acts_1 (by omega) (by omega) (by rw [f1]; rfl) (by decide) ?_
    refine lv_aload_n hx hb dX12_acts_135 rfl (lv_at hl 0 rfl) ?_
    refine lv_iload_n hx hb dX12_acts_136 rfl (lv_at hl 2 rfl) ?_
    refine lv_iconst (v := 0) hx hb dX12_acts_137 (by decide) ?_
    refine lv_iload_n hx hb dX12_acts_138 rfl (lv_at hl 3 rfl) ?_
    refine al_callv (va_runV (As := [.int w1, .int 0, .int w2]) (rest := []) ⟨hx, hb, hml, hown, hts⟩ (s_X12_lay l D s.heap.size o a t i q c d w1 0 w2 hI (show 0 ≤ w1.toInt ∧ w1.toInt ≤ 29 from by have h91 : (0 : Int32).toInt = 0 := (by decide); omega) (show 0 = -9 ∨ (0 ≤ 0 ∧ 0 ≤ 4) from by have h91 : (0 : Int32).toInt = 0 := (by decide); omega) (show w2.toInt = -9 ∨ (0 ≤ w2.toInt ∧ w2.toInt ≤ 29) from by have h91 : (0 : Int32).toInt = 0 := (by decide); omega)) (cwV 3 hts gm_X12_acts_X12_lay rfl rfl rfl (by decide +kernel) ⟨Nat.le_of_ble_eq_true rfl, Nat.le_of_ble_eq_true rfl⟩) (pB_V hK hP hD (ci := 12) (q0 := 0) rfl rfl) rfl rfl hl.1 rfl (lv_room (Nat.le_of_ble_eq_true rfl)) dX12_acts_139 ⟨Nat.le_of_ble_eq_true rfl, Nat.le_of_ble_eq_true rfl⟩) hS hA hP hD (fun u9 H locs hw9 hP hD hS => ?_)
    obtain ⟨i9, q9, c9, d9⟩ := u9
    have hw9 : True ∧ mInv i9 c9 ∧ (∀ k, k ∉ ([] : List Nat) → i9 k = i k) ∧ (∀ k, k ∉ ([23, 24] : List Nat) → c9 k = c k) ∧ ((c9 23) = upd (c 23) w1.toNatClampNeg (0 : Int32)) ∧ ((c9 24) = upd (c 24) w1.toNatClampNeg w2) := hw9
    obtain ⟨hw9, hI, hei9, hec9, hxp9_0, hxp9_1⟩ := hw9
    have hxp9_0 : (c9 23) = upd (c 23) w1.toNatClampNeg (0 : Int32) := hxp9_0
    have hxp9_1 : (c9 24) = upd (c 24) w1.toNatClampNeg w2 := hxp9_1
    have hfi : ∀ k, k ∉ ([] : List Nat) → i9 k = i k := fr_z hfi hei9 (by decide) (by decide)
    have hfc : ∀ k, k ∉ ([23, 24] : List Nat) → c9 k = c k := fr_z hfc hec9 (by decide) (by decide)
    have hP : va_P D vwCl (mW o a t i9 q9 c9 d9) H := hP
    have hD : va_D A (mW o a t i9 q9 c9 d9) := hD
    refine lv_goto (tgt := 272) hx hb dX12_acts_142 (by decide) ?_
    exact rw_vret (i9, q9, c9, d9) hx hb hr hlocks hS (hK.sub (tys' := []) [] rfl) hP hD dX12_acts_272 ⟨trivial, hI, fr_w hfi (by decide), fr_w hfc (by decide), (show TI (i 5).toInt (fun z => Kd (c 3) (c 6) z 0) (i 22).toInt (c9 23) (c9 24) from by rw [hxp9_0, hxp9_1]; exact TI_held (by omega) hs_T (by omega) (by show ¬ (c 23 w1.toInt.toNat).toInt = -9; have h9 := (hs_A.2.2.1 (by omega)).1; omega) (hs_A.2.2.1 (by omega)).2 (by decide) (by omega) (fun q9 => (hs_A.2.2.2.1 (by omega)).2 ((Ch_nx (fun e9 => (hs_A.2.2.2.1 (by omega)).1 e9.symm)).mp q9)))⟩
  · refine lv_tableIn (off := 144) (tgt := 145) hx hb dX12_acts_1 (by omega) (by omega) (by rw [f1]; rfl) (by decide) ?_
    refine lv_aload_n hx hb dX12_acts_145 rfl (lv_at hl 0 rfl) ?_
    refine lv_iload_n hx hb dX12_acts_146 rfl (lv_at hl 2 rfl) ?_
    refine lv_iconst (v := 1) hx hb dX12_acts_147 (by decide) ?_
    refine lv_iload_n hx hb dX12_acts_148 rfl (lv_at hl 3 rfl) ?_
    refine al_callv (va_runV (As := [.int w1, .int 1, .int w2]) (rest := []) ⟨hx, hb, hml, hown, hts⟩ (s_X12_lay l D s.heap.size o a t i q c d w1 1 w2 hI (show 0 ≤ w1.toInt ∧ w1.toInt ≤ 29 from by have h91 : (1 : Int32).toInt = 1 := (by decide); omega) (show 1 = -9 ∨ (0 ≤ 1 ∧ 1 ≤ 4) from by have h91 : (1 : Int32).toInt = 1 := (by decide); omega) (show w2.toInt = -9 ∨ (0 ≤ w2.toInt ∧ w2.toInt ≤ 29) from by have h91 : (1 : Int32).toInt = 1 := (by decide); omega)) (cwV 3 hts gm_X12_acts_X12_lay rfl rfl rfl (by decide +kernel) ⟨Nat.le_of_ble_eq_true rfl, Nat.le_of_ble_eq_true rfl⟩) (pB_V hK hP hD (ci := 12) (q0 := 0) rfl rfl) rfl rfl hl.1 rfl (lv_room (Nat.le_of_ble_eq_true rfl)) dX12_acts_149 ⟨Nat.le_of_ble_eq_true rfl, Nat.le_of_ble_eq_true rfl⟩) hS hA hP hD (fun u10 H locs hw10 hP hD hS => ?_)
    obtain ⟨i10, q10, c10, d10⟩ := u10
    have hw10 : True ∧ mInv i10 c10 ∧ (∀ k, k ∉ ([] : List Nat) → i10 k = i k) ∧ (∀ k, k ∉ ([23, 24] : List Nat) → c10 k = c k) ∧ ((c10 23) = upd (c 23) w1.toNatClampNeg (1 : Int32)) ∧ ((c10 24) = upd (c 24) w1.toNatClampNeg w2) := hw10
    obtain ⟨hw10, hI, hei10, hec10, hxp10_0, hxp10_1⟩ := hw10
    have hxp10_0 : (c10 23) = upd (c 23) w1.toNatClampNeg (1 : Int32) := hxp10_0
    have hxp10_1 : (c10 24) = upd (c 24) w1.toNatClampNeg w2 := hxp10_1
    have hfi : ∀ k, k ∉ ([] : List Nat) → i10 k = i k := fr_z hfi hei10 (by decide) (by decide)
    have hfc : ∀ k, k ∉ ([23, 24] : List Nat) → c10 k = c k := fr_z hfc hec10 (by decide) (by decide)
    have hP : va_P D vwCl (mW o a t i10 q10 c10 d10) H := hP
    have hD : va_D A (mW o a t i10 q10 c10 d10) := hD
    refine lv_goto (tgt := 272) hx hb dX12_acts_152 (by decide) ?_
    exact rw_vret (i10, q10, c10, d10) hx hb hr hlocks hS (hK.sub (tys' := []) [] rfl) hP hD dX12_acts_272 ⟨trivial, hI, fr_w hfi (by decide), fr_w hfc (by decide), (show TI (i 5).toInt (fun z => Kd (c 3) (c 6) z 0) (i 22).toInt (c10 23) (c10 24) from by rw [hxp10_0, hxp10_1]; exact TI_held (by omega) hs_T (by omega) (by show ¬ (c 23 w1.toInt.toNat).toInt = -9; have h9 := (hs_A.2.2.1 (by omega)).1; omega) (hs_A.2.2.1 (by omega)).2 (by decide) (by omega) (fun q9 => (hs_A.2.2.2.1 (by omega)).2 ((Ch_nx (fun e9 => (hs_A.2.2.2.1 (by omega)).1 e9.symm)).mp q9)))⟩
  · refine lv_tableIn (off := 154) (tgt := 155) hx hb dX12_acts_1 (by omega) (by omega) (by rw [f1]; rfl) (by decide) ?_
    refine lv_aload_n hx hb dX12_acts_155 rfl (lv_at hl 0 rfl) ?_
    refine mget_25 hx hb hts (fun _ h => List.mem_cons_of_mem _ (List.mem_append_right _ h)) hown hK hP (hts (.fieldLink RX12 56 "TalePlayModel" "nOpen" "[Z") (by decide +kernel)) dX12_acts_156 ?_
    refine lv_iload_n hx hb dX12_acts_159 rfl (lv_at hl 2 rfl) ?_
    refine lv_iload_n hx hb dX12_acts_160 rfl (lv_at hl 1 rfl) ?_
    refine lv_iconst (v := 5) hx hb dX12_acts_161 (by decide) ?_
    refine lv_icmp_ne (tgt := 169) hx hb dX12_acts_162 (by decide) (fun c11 => ?_) (fun c11 => ?_)
    · have f11 := mt (ti_eq (a := v1.toInt) (b := 5) rfl (by decide)).mpr c11
      refine lv_iconst (v := 0) hx hb dX12_acts_169 (by decide) ?_
      refine mst_25 hx hb hK hP hD hS (vp_in_iff.mpr (by have h9 : w1.toInt = w1.toInt := rfl; omega)) (nb_z (show 0 ≤ (0 : Int32).toInt ∧ (0 : Int32).toInt ≤ 1 from by have h9 : (0 : Int32).toInt = 0 := (by decide); omega)) dX12_acts_170 (fun H locs hP hD hS => ?_)
      have hI := mInv_c hI (k := 25) (j := (w1 : Int32).toNatClampNeg) (x := 0) (show 0 ≤ (0 : Int32).toInt ∧ (0 : Int32).toInt ≤ 1 from by have h9 : (0 : Int32).toInt = 0 := (by decide); omega)
      have hfc : ∀ k, k ∉ ([25] : List Nat) → (updA c 25 (w1 : Int32).toNatClampNeg 0) k = c k := fr_cz hfc (by decide) (by decide)
      refine lv_goto (tgt := 272) hx hb dX12_acts_171 (by decide) ?_
      exact rw_vret (i, q, (updA c 25 (w1 : Int32).toNatClampNeg 0), d) hx hb hr hlocks hS (hK.sub (tys' := []) [] rfl) hP hD dX12_acts_272 ⟨trivial, hI, fr_w hfi (by decide), fr_w hfc (by decide), (show TI (i 5).toInt (fun z => Kd (c 3) (c 6) z 0) (i 22).toInt ((updA c 25 (w1 : Int32).toNatClampNeg 0) 23) ((updA c 25 (w1 : Int32).toNatClampNeg 0) 24) from hs_T)⟩
    · have f11 := (ti_eq (a := v1.toInt) (b := 5) rfl (by decide)).mp c11
      refine lv_iconst (v := 1) hx hb dX12_acts_165 (by decide) ?_
      refine lv_goto (tgt := 170) hx hb dX12_acts_166 (by decide) ?_
      refine mst_25 hx hb hK hP hD hS (vp_in_iff.mpr (by have h9 : w1.toInt = w1.toInt := rfl; omega)) (nb_z (show 0 ≤ (1 : Int32).toInt ∧ (1 : Int32).toInt ≤ 1 from by have h9 : (1 : Int32).toInt = 1 := (by decide); omega)) dX12_acts_170 (fun H locs hP hD hS => ?_)
      have hI := mInv_c hI (k := 25) (j := (w1 : Int32).toNatClampNeg) (x := 1) (show 0 ≤ (1 : Int32).toInt ∧ (1 : Int32).toInt ≤ 1 from by have h9 : (1 : Int32).toInt = 1 := (by decide); omega)
      have hfc : ∀ k, k ∉ ([25] : List Nat) → (updA c 25 (w1 : Int32).toNatClampNeg 1) k = c k := fr_cz hfc (by decide) (by decide)
      refine lv_goto (tgt := 272) hx hb dX12_acts_171 (by decide) ?_
      exact rw_vret (i, q, (updA c 25 (w1 : Int32).toNatClampNeg 1), d) hx hb hr hlocks hS (hK.sub (tys' := []) [] rfl) hP hD dX12_acts_272 ⟨trivial, hI, fr_w hfi (by decide), fr_w hfc (by decide), (show TI (i 5).toInt (fun z => Kd (c 3) (c 6) z 0) (i 22).toInt ((updA c 25 (w1 : Int32).toNatClampNeg 1) 23) ((updA c 25 (w1 : Int32).toNatClampNeg 1) 24) from hs_T)⟩
  · refine lv_tableIn (off := 154) (tgt := 155) hx hb dX12_acts_1 (by omega) (by omega) (by rw [f1]; rfl) (by decide) ?_
    refine lv_aload_n hx hb dX12_acts_155 rfl (lv_at hl 0 rfl) ?_
    refine mget_25 hx hb hts (fun _ h => List.mem_cons_of_mem _ (List.mem_append_right _ h)) hown hK hP (hts (.fieldLink RX12 56 "TalePlayModel" "nOpen" "[Z") (by decide +kernel)) dX12_acts_156 ?_
    refine lv_iload_n hx hb dX12_acts_159 rfl (lv_at hl 2 rfl) ?_
    refine lv_iload_n hx hb dX12_acts_160 rfl (lv_at hl 1 rfl) ?_
    refine lv_iconst (v := 5) hx hb dX12_acts_161 (by decide) ?_
    refine lv_icmp_ne (tgt := 169) hx hb dX12_acts_162 (by decide) (fun c12 => ?_) (fun c12 => ?_)
    · have f12 := mt (ti_eq (a := v1.toInt) (b := 5) rfl (by decide)).mpr c12
      refine lv_iconst (v := 0) hx hb dX12_acts_169 (by decide) ?_
      refine mst_25 hx hb hK hP hD hS (vp_in_iff.mpr (by have h9 : w1.toInt = w1.toInt := rfl; omega)) (nb_z (show 0 ≤ (0 : Int32).toInt ∧ (0 : Int32).toInt ≤ 1 from by have h9 : (0 : Int32).toInt = 0 := (by decide); omega)) dX12_acts_170 (fun H locs hP hD hS => ?_)
      have hI := mInv_c hI (k := 25) (j := (w1 : Int32).toNatClampNeg) (x := 0) (show 0 ≤ (0 : Int32).toInt ∧ (0 : Int32).toInt ≤ 1 from by have h9 : (0 : Int32).toInt = 0 := (by decide); omega)
      have hfc : ∀ k, k ∉ ([25] : List Nat) → (updA c 25 (w1 : Int32).toNatClampNeg 0) k = c k := fr_cz hfc (by decide) (by decide)
      refine lv_goto (tgt := 272) hx hb dX12_acts_171 (by decide) ?_
      exact rw_vret (i, q, (updA c 25 (w1 : Int32).toNatClampNeg 0), d) hx hb hr hlocks hS (hK.sub (tys' := []) [] rfl) hP hD dX12_acts_272 ⟨trivial, hI, fr_w hfi (by decide), fr_w hfc (by decide), (show TI (i 5).toInt (fun z => Kd (c 3) (c 6) z 0) (i 22).toInt ((updA c 25 (w1 : Int32).toNatClampNeg 0) 23) ((updA c 25 (w1 : Int32).toNatClampNeg 0) 24) from hs_T)⟩
    · have f12 := (ti_eq (a := v1.toInt) (b := 5) rfl (by decide)).mp c12
      refine lv_iconst (v := 1) hx hb dX12_acts_165 (by decide) ?_
      refine lv_goto (tgt := 170) hx hb dX12_acts_166 (by decide) ?_
      refine mst_25 hx hb hK hP hD hS (vp_in_iff.mpr (by have h9 : w1.toInt = w1.toInt := rfl; omega)) (nb_z (show 0 ≤ (1 : Int32).toInt ∧ (1 : Int32).toInt ≤ 1 from by have h9 : (1 : Int32).toInt = 1 := (by decide); omega)) dX12_acts_170 (fun H locs hP hD hS => ?_)
      have hI := mInv_c hI (k := 25) (j := (w1 : Int32).toNatClampNeg) (x := 1) (show 0 ≤ (1 : Int32).toInt ∧ (1 : Int32).toInt ≤ 1 from by have h9 : (1 : Int32).toInt = 1 := (by decide); omega)
      have hfc : ∀ k, k ∉ ([25] : List Nat) → (updA c 25 (w1 : Int32).toNatClampNeg 1) k = c k := fr_cz hfc (by decide) (by decide)
      refine lv_goto (tgt := 272) hx hb dX12_acts_171 (by decide) ?_
      exact rw_vret (i, q, (updA c 25 (w1 : Int32).toNatClampNeg 1), d) hx hb hr hlocks hS (hK.sub (tys' := []) [] rfl) hP hD dX12_acts_272 ⟨trivial, hI, fr_w hfi (by decide), fr_w hfc (by decide), (show TI (i 5).toInt (fun z => Kd (c 3) (c 6) z 0) (i 22).toInt ((updA c 25 (w1 : Int32).toNatClampNeg 1) 23) ((updA c 25 (w1 : Int32).toNatClampNeg 1) 24) from hs_T)⟩
  · refine lv_tableIn (off := 173) (tgt := 174) hx hb dX12_acts_1 (by omega) (by omega) (by rw [f1]; rfl) (by decide) ?_
    refine lv_aload_n hx hb dX12_acts_174 rfl (lv_at hl 0 rfl) ?_
    refine mget_26 hx hb hts (fun _ h => List.mem_cons_of_mem _ (List.mem_append_right _ h)) hown hK hP (hts (.fieldLink RX12 59 "TalePlayModel" "nLocked" "[Z") (by decide +kernel)) dX12_acts_175 ?_
    refine lv_iload_n hx hb dX12_acts_178 rfl (lv_at hl 2 rfl) ?_
    refine lv_iload_n hx hb dX12_acts_179 rfl (lv_at hl 1 rfl) ?_
    refine lv_bipush (v := 8) hx hb dX12_acts_180 (by decide) ?_
    refine lv_icmp_ne (tgt := 189) hx hb dX12_acts_182 (by decide) (fun c13 => ?_) (fun c13 => ?_)
    · have f13 := mt (ti_eq (a := v1.toInt) (b := 8) rfl (by decide)).mpr c13
      refine lv_iconst (v := 0) hx hb dX12_acts_189 (by decide) ?_
      refine mst_26 hx hb hK hP hD hS (vp_in_iff.mpr (by have h9 : w1.toInt = w1.toInt := rfl; omega)) (nb_z (show 0 ≤ (0 : Int32).toInt ∧ (0 : Int32).toInt ≤ 1 from by have h9 : (0 : Int32).toInt = 0 := (by decide); omega)) dX12_acts_190 (fun H locs hP hD hS => ?_)
      have hI := mInv_c hI (k := 26) (j := (w1 : Int32).toNatClampNeg) (x := 0) (show 0 ≤ (0 : Int32).toInt ∧ (0 : Int32).toInt ≤ 1 from by have h9 : (0 : Int32).toInt = 0 := (by decide); omega)
      have hfc : ∀ k, k ∉ ([26] : List Nat) → (updA c 26 (w1 : Int32).toNatClampNeg 0) k = c k := fr_cz hfc (by decide) (by decide)
      refine lv_goto (tgt := 272) hx hb dX12_acts_191 (by decide) ?_
      exact rw_vret (i, q, (updA c 26 (w1 : Int32).toNatClampNeg 0), d) hx hb hr hlocks hS (hK.sub (tys' := []) [] rfl) hP hD dX12_acts_272 ⟨trivial, hI, fr_w hfi (by decide), fr_w hfc (by decide), (show TI (i 5).toInt (fun z => Kd (c 3) (c 6) z 0) (i 22).toInt ((updA c 26 (w1 : Int32).toNatClampNeg 0) 23) ((updA c 26 (w1 : Int32).toNatClampNeg 0) 24) from hs_T)⟩
    · have f13 := (ti_eq (a := v1.toInt) (b := 8) rfl (by decide)).mp c13
      refine lv_iconst (v := 1) hx hb dX12_acts_185 (by decide) ?_
      refine lv_goto (tgt := 190) hx hb dX12_acts_186 (by decide) ?_
      refine mst_26 hx hb hK hP hD hS (vp_in_iff.mpr (by have h9 : w1.toInt = w1.toInt := rfl; omega)) (nb_z (show 0 ≤ (1 : Int32).toInt ∧ (1 : Int32).toInt ≤ 1 from by have h9 : (1 : Int32).toInt = 1 := (by decide); omega)) dX12_acts_190 (fun H locs hP hD hS => ?_)
      have hI := mInv_c hI (k := 26) (j := (w1 : Int32).toNatClampNeg) (x := 1) (show 0 ≤ (1 : Int32).toInt ∧ (1 : Int32).toInt ≤ 1 from by have h9 : (1 : Int32).toInt = 1 := (by decide); omega)
      have hfc : ∀ k, k ∉ ([26] : List Nat) → (updA c 26 (w1 : Int32).toNatClampNeg 1) k = c k := fr_cz hfc (by decide) (by decide)
      refine lv_goto (tgt := 272) hx hb dX12_acts_191 (by decide) ?_
      exact rw_vret (i, q, (updA c 26 (w1 : Int32).toNatClampNeg 1), d) hx hb hr hlocks hS (hK.sub (tys' := []) [] rfl) hP hD dX12_acts_272 ⟨trivial, hI, fr_w hfi (by decide), fr_w hfc (by decide), (show TI (i 5).toInt (fun z => Kd (c 3) (c 6) z 0) (i 22).toInt ((updA c 26 (w1 : Int32).toNatClampNeg 1) 23) ((updA c 26 (w1 : Int32).toNatClampNeg 1) 24) from hs_T)⟩
  · refine lv_tableIn (off := 173) (tgt := 174) hx hb dX12_acts_1 (by omega) (by omega) (by rw [f1]; rfl) (by decide) ?_
    refine lv_aload_n hx hb dX12_acts_174 rfl (lv_at hl 0 rfl) ?_
    refine mget_26 hx hb hts (fun _ h => List.mem_cons_of_mem _ (List.mem_append_right _ h)) hown hK hP (hts (.fieldLink RX12 59 "TalePlayModel" "nLocked" "[Z") (by decide +kernel)) dX12_acts_175 ?_
    refine lv_iload_n hx hb dX12_acts_178 rfl (lv_at hl 2 rfl) ?_
    refine lv_iload_n hx hb dX12_acts_179 rfl (lv_at hl 1 rfl) ?_
    refine lv_bipush (v := 8) hx hb dX12_acts_180 (by decide) ?_
    refine lv_icmp_ne (tgt := 189) hx hb dX12_acts_182 (by decide) (fun c14 => ?_) (fun c14 => ?_)
    · have f14 := mt (ti_eq (a := v1.toInt) (b := 8) rfl (by decide)).mpr c14
      refine lv_iconst (v := 0) hx hb dX12_acts_189 (by decide) ?_
      refine mst_26 hx hb hK hP hD hS (vp_in_iff.mpr (by have h9 : w1.toInt = w1.toInt := rfl; omega)) (nb_z (show 0 ≤ (0 : Int32).toInt ∧ (0 : Int32).toInt ≤ 1 from by have h9 : (0 : Int32).toInt = 0 := (by decide); omega)) dX12_acts_190 (fun H locs hP hD hS => ?_)
      have hI := mInv_c hI (k := 26) (j := (w1 : Int32).toNatClampNeg) (x := 0) (show 0 ≤ (0 : Int32).toInt ∧ (0 : Int32).toInt ≤ 1 from by have h9 : (0 : Int32).toInt = 0 := (by decide); omega)
      have hfc : ∀ k, k ∉ ([26] : List Nat) → (updA c 26 (w1 : Int32).toNatClampNeg 0) k = c k := fr_cz hfc (by decide) (by decide)
      refine lv_goto (tgt := 272) hx hb dX12_acts_191 (by decide) ?_
      exact rw_vret (i, q, (updA c 26 (w1 : Int32).toNatClampNeg 0), d) hx hb hr hlocks hS (hK.sub (tys' := []) [] rfl) hP hD dX12_acts_272 ⟨trivial, hI, fr_w hfi (by decide), fr_w hfc (by decide), (show TI (i 5).toInt (fun z => Kd (c 3) (c 6) z 0) (i 22).toInt ((updA c 26 (w1 : Int32).toNatClampNeg 0) 23) ((updA c 26 (w1 : Int32).toNatClampNeg 0) 24) from hs_T)⟩
    · have f14 := (ti_eq (a := v1.toInt) (b := 8) rfl (by decide)).mp c14
      refine lv_iconst (v := 1) hx hb dX12_acts_185 (by decide) ?_
      refine lv_goto (tgt := 190) hx hb dX12_acts_186 (by decide) ?_
      refine mst_26 hx hb hK hP hD hS (vp_in_iff.mpr (by have h9 : w1.toInt = w1.toInt := rfl; omega)) (nb_z (show 0 ≤ (1 : Int32).toInt ∧ (1 : Int32).toInt ≤ 1 from by have h9 : (1 : Int32).toInt = 1 := (by decide); omega)) dX12_acts_190 (fun H locs hP hD hS => ?_)
      have hI := mInv_c hI (k := 26) (j := (w1 : Int32).toNatClampNeg) (x := 1) (show 0 ≤ (1 : Int32).toInt ∧ (1 : Int32).toInt ≤ 1 from by have h9 : (1 : Int32).toInt = 1 := (by decide); omega)
      have hfc : ∀ k, k ∉ ([26] : List Nat) → (updA c 26 (w1 : Int32).toNatClampNeg 1) k = c k := fr_cz hfc (by decide) (by decide)
      refine lv_goto (tgt := 272) hx hb dX12_acts_191 (by decide) ?_
      exact rw_vret (i, q, (updA c 26 (w1 : Int32).toNatClampNeg 1), d) hx hb hr hlocks hS (hK.sub (tys' := []) [] rfl) hP hD dX12_acts_272 ⟨trivial, hI, fr_w hfi (by decide), fr_w hfc (by decide), (show TI (i 5).toInt (fun z => Kd (c 3) (c 6) z 0) (i 22).toInt ((updA c 26 (w1 : Int32).toNatClampNeg 1) 23) ((updA c 26 (w1 : Int32).toNatClampNeg 1) 24) from hs_T)⟩
  · refine lv_tableIn (off := 193) (tgt := 194) hx hb dX12_acts_1 (by omega) (by omega) (by rw [f1]; rfl) (by decide) ?_
    refine lv_aload_n hx hb dX12_acts_194 rfl (lv_at hl 0 rfl) ?_
    refine lv_iload_n hx hb dX12_acts_195 rfl (lv_at hl 2 rfl) ?_
    refine lv_iconst (v := 3) hx hb dX12_acts_196 (by decide) ?_
    refine lv_aload_n hx hb dX12_acts_197 rfl (lv_at hl 0 rfl) ?_
    refine mget_22 (v := (i 22)) rfl hx hb hts (fun _ h => List.mem_cons_of_mem _ (List.mem_append_right _ h)) hown hK hP (hts (.fieldLink RX12 155 "TalePlayModel" "player" "I") (by decide +kernel)) dX12_acts_198 ?_
    refine al_callv (va_runV (As := [.int w1, .int 3, .int (i 22)]) (rest := []) ⟨hx, hb, hml, hown, hts⟩ (s_X12_lay l D s.heap.size o a t i q c d w1 3 (i 22) hI (show 0 ≤ w1.toInt ∧ w1.toInt ≤ 29 from by have h91 : (3 : Int32).toInt = 3 := (by decide); omega) (show 3 = -9 ∨ (0 ≤ 3 ∧ 3 ≤ 4) from by have h91 : (3 : Int32).toInt = 3 := (by decide); omega) (show (i 22).toInt = -9 ∨ (0 ≤ (i 22).toInt ∧ (i 22).toInt ≤ 29) from by have h91 : (3 : Int32).toInt = 3 := (by decide); omega)) (cwV 3 hts gm_X12_acts_X12_lay rfl rfl rfl (by decide +kernel) ⟨Nat.le_of_ble_eq_true rfl, Nat.le_of_ble_eq_true rfl⟩) (pB_V hK hP hD (ci := 12) (q0 := 0) rfl rfl) rfl rfl hl.1 rfl (lv_room (Nat.le_of_ble_eq_true rfl)) dX12_acts_201 ⟨Nat.le_of_ble_eq_true rfl, Nat.le_of_ble_eq_true rfl⟩) hS hA hP hD (fun u15 H locs hw15 hP hD hS => ?_)
    obtain ⟨i15, q15, c15, d15⟩ := u15
    have hw15 : True ∧ mInv i15 c15 ∧ (∀ k, k ∉ ([] : List Nat) → i15 k = i k) ∧ (∀ k, k ∉ ([23, 24] : List Nat) → c15 k = c k) ∧ ((c15 23) = upd (c 23) w1.toNatClampNeg (3 : Int32)) ∧ ((c15 24) = upd (c 24) w1.toNatClampNeg (i 22)) := hw15
    obtain ⟨hw15, hI, hei15, hec15, hxp15_0, hxp15_1⟩ := hw15
    have hxp15_0 : (c15 23) = upd (c 23) w1.toNatClampNeg (3 : Int32) := hxp15_0
    have hxp15_1 : (c15 24) = upd (c 24) w1.toNatClampNeg (i 22) := hxp15_1
    have hfi : ∀ k, k ∉ ([] : List Nat) → i15 k = i k := fr_z hfi hei15 (by decide) (by decide)
    have hfc : ∀ k, k ∉ ([23, 24] : List Nat) → c15 k = c k := fr_z hfc hec15 (by decide) (by decide)
    have hP : va_P D vwCl (mW o a t i15 q15 c15 d15) H := hP
    have hD : va_D A (mW o a t i15 q15 c15 d15) := hD
    refine lv_goto (tgt := 272) hx hb dX12_acts_204 (by decide) ?_
    exact rw_vret (i15, q15, c15, d15) hx hb hr hlocks hS (hK.sub (tys' := []) [] rfl) hP hD dX12_acts_272 ⟨trivial, hI, fr_w hfi (by decide), fr_w hfc (by decide), (show TI (i 5).toInt (fun z => Kd (c 3) (c 6) z 0) (i 22).toInt (c15 23) (c15 24) from by rw [hxp15_0, hxp15_1]; exact TI_held (by omega) hs_T (by omega) (by show ¬ (c 23 w1.toInt.toNat).toInt = -9; have h9 := (hs_A.2.2.1 (by omega)).1; omega) (hs_A.2.2.1 (by omega)).2 (by decide) (by omega) (Ch_held hsp hs_T.2.2.2.1 hp0 (by omega) ((nF_at (by omega) rfl (by show ¬ (c 23 w1.toInt.toNat).toInt = -9; have h9 := (hs_A.2.2.1 (by omega)).1; omega) rfl).trans (hs_A.2.2.1 (by omega)).2) (by omega)))⟩
  · refine lv_tableIn (off := 206) (tgt := 207) hx hb dX12_acts_1 (by omega) (by omega) (by rw [f1]; rfl) (by decide) ?_
    refine lv_aload_n hx hb dX12_acts_207 rfl (lv_at hl 0 rfl) ?_
    refine lv_aload_n hx hb dX12_acts_208 rfl (lv_at hl 0 rfl) ?_
    refine mget_22 (v := (i 22)) rfl hx hb hts (fun _ h => List.mem_cons_of_mem _ (List.mem_append_right _ h)) hown hK hP (hts (.fieldLink RX12 155 "TalePlayModel" "player" "I") (by decide +kernel)) dX12_acts_209 ?_
    refine lv_aload_n hx hb dX12_acts_212 rfl (lv_at hl 0 rfl) ?_
    refine mget_47 hx hb hts (fun _ h => List.mem_cons_of_mem _ (List.mem_append_right _ h)) hown hK hP (hts (.fieldLink RX12 98 "TalePlayModel" "isBox" "[Z") (by decide +kernel)) dX12_acts_213 ?_
    refine lv_iload_n hx hb dX12_acts_216 rfl (lv_at hl 2 rfl) ?_
    refine mld_47 hx hb hK hP (vp_in_iff.mpr (by have h9 : w1.toInt = w1.toInt := rfl; omega)) dX12_acts_217 (fun x16 ex16 => ?_)
    have rx16 : 0 ≤ x16.toInt ∧ x16.toInt ≤ 1 := by rw [ex16]; exact hI.2 47 _
    refine lv_if_eq (tgt := 225) hx hb dX12_acts_218 (by decide) (fun c17 => ?_) (fun c17 => ?_)
    · have f17 := (ti_eq (a := x16.toInt) (b := 0) rfl (by decide)).mp c17
      refine lv_iconst (v := 1) hx hb dX12_acts_225 (by decide) ?_
      refine lv_iload_n hx hb dX12_acts_226 rfl (lv_at hl 2 rfl) ?_
      have hK8 := (hs_A.2.2.2.2.1 (by omega)).1
      have hne8 : ¬ w1.toInt = (i 22).toInt := fun e9 => by rcases hK8 with q9 | q9; exact Kd_ab (a := 3) (b := 5) h6 (by omega) (by omega) (by omega) q9 (by rw [e9]; exact hs_P); exact Kd_ab (a := 4) (b := 5) h6 (by omega) (by omega) (by omega) q9 (by rw [e9]; exact hs_P)
      have hm8 : ∃ m, 0 ≤ m ∧ Ch (nF (i 5).toInt (c 23) (c 24)) w1.toInt m ∧ Ch (nF (i 5).toInt (c 23) (c 24)) (i 22).toInt m := by rcases hs_R w1.toInt (by omega) (by omega) (hs_A.2.2.2.2.1 (by omega)).2.2 with q9 | q9 | q9; exact absurd q9 hne8; (have q8 := (hs_C w1.toInt (by omega) (by omega)).2.2 q9; rcases hK8 with q7 | q7; exact absurd q8 (Kd_ab (a := 3) (b := 2) h6 (by omega) (by omega) (by omega) q7); exact absurd q8 (Kd_ab (a := 4) (b := 2) h6 (by omega) (by omega) (by omega) q7)); exact q9
      refine al_callv (va_runV (As := [.int (i 22), .int 1, .int w1]) (rest := []) ⟨hx, hb, hml, hown, hts⟩ (s_X12_lay l D s.heap.size o a t i q c d (i 22) 1 w1 hI (show 0 ≤ (i 22).toInt ∧ (i 22).toInt ≤ 29 from by have h91 : (1 : Int32).toInt = 1 := (by decide); omega) (show 1 = -9 ∨ (0 ≤ 1 ∧ 1 ≤ 4) from by have h91 : (1 : Int32).toInt = 1 := (by decide); omega) (show w1.toInt = -9 ∨ (0 ≤ w1.toInt ∧ w1.toInt ≤ 29) from by have h91 : (1 : Int32).toInt = 1 := (by decide); omega)) (cwV 3 hts gm_X12_acts_X12_lay rfl rfl rfl (by decide +kernel) ⟨Nat.le_of_ble_eq_true rfl, Nat.le_of_ble_eq_true rfl⟩) (pB_V hK hP hD (ci := 12) (q0 := 0) rfl rfl) rfl rfl hl.1 rfl (lv_room (Nat.le_of_ble_eq_true rfl)) dX12_acts_227 ⟨Nat.le_of_ble_eq_true rfl, Nat.le_of_ble_eq_true rfl⟩) hS hA hP hD (fun u18 H locs hw18 hP hD hS => ?_)
      obtain ⟨i18, q18, c18, d18⟩ := u18
      have hw18 : True ∧ mInv i18 c18 ∧ (∀ k, k ∉ ([] : List Nat) → i18 k = i k) ∧ (∀ k, k ∉ ([23, 24] : List Nat) → c18 k = c k) ∧ ((c18 23) = upd (c 23) (i 22).toNatClampNeg (1 : Int32)) ∧ ((c18 24) = upd (c 24) (i 22).toNatClampNeg w1) := hw18
      obtain ⟨hw18, hI, hei18, hec18, hxp18_0, hxp18_1⟩ := hw18
      have hxp18_0 : (c18 23) = upd (c 23) (i 22).toNatClampNeg (1 : Int32) := hxp18_0
      have hxp18_1 : (c18 24) = upd (c 24) (i 22).toNatClampNeg w1 := hxp18_1
      have hfi : ∀ k, k ∉ ([] : List Nat) → i18 k = i k := fr_z hfi hei18 (by decide) (by decide)
      have hfc : ∀ k, k ∉ ([23, 24] : List Nat) → c18 k = c k := fr_z hfc hec18 (by decide) (by decide)
      have hP : va_P D vwCl (mW o a t i18 q18 c18 d18) H := hP
      have hD : va_D A (mW o a t i18 q18 c18 d18) := hD
      refine lv_goto (tgt := 272) hx hb dX12_acts_230 (by decide) ?_
      exact rw_vret (i18, q18, c18, d18) hx hb hr hlocks hS (hK.sub (tys' := []) [] rfl) hP hD dX12_acts_272 ⟨trivial, hI, fr_w hfi (by decide), fr_w hfc (by decide), (show TI (i 5).toInt (fun z => Kd (c 3) (c 6) z 0) (i 22).toInt (c18 23) (c18 24) from by rw [hxp18_0, hxp18_1]; exact TI_enter (by omega) h6 hs_T rfl (by decide) (by omega) hne8 (hs_A.2.2.2.2.1 (by omega)).2.1 hm8)⟩
    · have f17 := mt (ti_eq (a := x16.toInt) (b := 0) rfl (by decide)).mpr c17
      refine lv_iconst (v := 0) hx hb dX12_acts_221 (by decide) ?_
      refine lv_goto (tgt := 226) hx hb dX12_acts_222 (by decide) ?_
      refine lv_iload_n hx hb dX12_acts_226 rfl (lv_at hl 2 rfl) ?_
      have hK8 := (hs_A.2.2.2.2.1 (by omega)).1
      have hne8 : ¬ w1.toInt = (i 22).toInt := fun e9 => by rcases hK8 with q9 | q9; exact Kd_ab (a := 3) (b := 5) h6 (by omega) (by omega) (by omega) q9 (by rw [e9]; exact hs_P); exact Kd_ab (a := 4) (b := 5) h6 (by omega) (by omega) (by omega) q9 (by rw [e9]; exact hs_P)
      have hm8 : ∃ m, 0 ≤ m ∧ Ch (nF (i 5).toInt (c 23) (c 24)) w1.toInt m ∧ Ch (nF (i 5).toInt (c 23) (c 24)) (i 22).toInt m := by rcases hs_R w1.toInt (by omega) (by omega) (hs_A.2.2.2.2.1 (by omega)).2.2 with q9 | q9 | q9; exact absurd q9 hne8; (have q8 := (hs_C w1.toInt (by omega) (by omega)).2.2 q9; rcases hK8 with q7 | q7; exact absurd q8 (Kd_ab (a := 3) (b := 2) h6 (by omega) (by omega) (by omega) q7); exact absurd q8 (Kd_ab (a := 4) (b := 2) h6 (by omega) (by omega) (by omega) q7)); exact q9
      refine al_callv (va_runV (As := [.int (i 22), .int 0, .int w1]) (rest := []) ⟨hx, hb, hml, hown, hts⟩ (s_X12_lay l D s.heap.size o a t i q c d (i 22) 0 w1 hI (show 0 ≤ (i 22).toInt ∧ (i 22).toInt ≤ 29 from by have h91 : (0 : Int32).toInt = 0 := (by decide); omega) (show 0 = -9 ∨ (0 ≤ 0 ∧ 0 ≤ 4) from by have h91 : (0 : Int32).toInt = 0 := (by decide); omega) (show w1.toInt = -9 ∨ (0 ≤ w1.toInt ∧ w1.toInt ≤ 29) from by have h91 : (0 : Int32).toInt = 0 := (by decide); omega)) (cwV 3 hts gm_X12_acts_X12_lay rfl rfl rfl (by decide +kernel) ⟨Nat.le_of_ble_eq_true rfl, Nat.le_of_ble_eq_true rfl⟩) (pB_V hK hP hD (ci := 12) (q0 := 0) rfl rfl) rfl rfl hl.1 rfl (lv_room (Nat.le_of_ble_eq_true rfl)) dX12_acts_227 ⟨Nat.le_of_ble_eq_true rfl, Nat.le_of_ble_eq_true rfl⟩) hS hA hP hD (fun u19 H locs hw19 hP hD hS => ?_)
      obtain ⟨i19, q19, c19, d19⟩ := u19
      have hw19 : True ∧ mInv i19 c19 ∧ (∀ k, k ∉ ([] : List Nat) → i19 k = i k) ∧ (∀ k, k ∉ ([23, 24] : List Nat) → c19 k = c k) ∧ ((c19 23) = upd (c 23) (i 22).toNatClampNeg (0 : Int32)) ∧ ((c19 24) = upd (c 24) (i 22).toNatClampNeg w1) := hw19
      obtain ⟨hw19, hI, hei19, hec19, hxp19_0, hxp19_1⟩ := hw19
      have hxp19_0 : (c19 23) = upd (c 23) (i 22).toNatClampNeg (0 : Int32) := hxp19_0
      have hxp19_1 : (c19 24) = upd (c 24) (i 22).toNatClampNeg w1 := hxp19_1
      have hfi : ∀ k, k ∉ ([] : List Nat) → i19 k = i k := fr_z hfi hei19 (by decide) (by decide)
      have hfc : ∀ k, k ∉ ([23, 24] : List Nat) → c19 k = c k := fr_z hfc hec19 (by decide) (by decide)
      have hP : va_P D vwCl (mW o a t i19 q19 c19 d19) H := hP
      have hD : va_D A (mW o a t i19 q19 c19 d19) := hD
      refine lv_goto (tgt := 272) hx hb dX12_acts_230 (by decide) ?_
      exact rw_vret (i19, q19, c19, d19) hx hb hr hlocks hS (hK.sub (tys' := []) [] rfl) hP hD dX12_acts_272 ⟨trivial, hI, fr_w hfi (by decide), fr_w hfc (by decide), (show TI (i 5).toInt (fun z => Kd (c 3) (c 6) z 0) (i 22).toInt (c19 23) (c19 24) from by rw [hxp19_0, hxp19_1]; exact TI_enter (by omega) h6 hs_T rfl (by decide) (by omega) hne8 (hs_A.2.2.2.2.1 (by omega)).2.1 hm8)⟩
  · refine lv_tableIn (off := 232) (tgt := 233) hx hb dX12_acts_1 (by omega) (by omega) (by rw [f1]; rfl) (by decide) ?_
    refine lv_aload_n hx hb dX12_acts_233 rfl (lv_at hl 0 rfl) ?_
    refine lv_aload_n hx hb dX12_acts_234 rfl (lv_at hl 0 rfl) ?_
    refine mget_22 (v := (i 22)) rfl hx hb hts (fun _ h => List.mem_cons_of_mem _ (List.mem_append_right _ h)) hown hK hP (hts (.fieldLink RX12 155 "TalePlayModel" "player" "I") (by decide +kernel)) dX12_acts_235 ?_
    refine lv_aload_n hx hb dX12_acts_238 rfl (lv_at hl 0 rfl) ?_
    refine mget_23 hx hb hts (fun _ h => List.mem_cons_of_mem _ (List.mem_append_right _ h)) hown hK hP (hts (.fieldLink RX12 50 "TalePlayModel" "nForm" "[I") (by decide +kernel)) dX12_acts_239 ?_
    refine lv_aload_n hx hb dX12_acts_242 rfl (lv_at hl 0 rfl) ?_
    refine mget_24 hx hb hts (fun _ h => List.mem_cons_of_mem _ (List.mem_append_right _ h)) hown hK hP (hts (.fieldLink RX12 53 "TalePlayModel" "nAt" "[I") (by decide +kernel)) dX12_acts_243 ?_
    refine lv_aload_n hx hb dX12_acts_246 rfl (lv_at hl 0 rfl) ?_
    refine mget_22 (v := (i 22)) rfl hx hb hts (fun _ h => List.mem_cons_of_mem _ (List.mem_append_right _ h)) hown hK hP (hts (.fieldLink RX12 155 "TalePlayModel" "player" "I") (by decide +kernel)) dX12_acts_247 ?_
    refine mld_24 hx hb hK hP (vp_in_iff.mpr (by have h9 : (i 22).toInt = (i 22).toInt := rfl; omega)) dX12_acts_250 (fun x20 ex20 => ?_)
    have rx20 : x20.toInt = -9 ∨ (0 ≤ x20.toInt ∧ x20.toInt ≤ 29) := by rw [ex20]; exact hI.2 24 _
    have gx20 : (c 24 ((i 22) : Int32).toNatClampNeg).toInt = x20.toInt := by rw [ex20]
    refine mld_23 hx hb hK hP (vp_in_iff.mpr (by have h9 : x20.toInt = x20.toInt := rfl; omega)) dX12_acts_251 (fun x21 ex21 => ?_)
    have rx21 : x21.toInt = -9 ∨ (0 ≤ x21.toInt ∧ x21.toInt ≤ 4) := by rw [ex21]; exact hI.2 23 _
    have gx21 : (c 23 (x20 : Int32).toNatClampNeg).toInt = x21.toInt := by rw [ex21]
    refine lv_aload_n hx hb dX12_acts_252 rfl (lv_at hl 0 rfl) ?_
    refine mget_24 hx hb hts (fun _ h => List.mem_cons_of_mem _ (List.mem_append_right _ h)) hown hK hP (hts (.fieldLink RX12 53 "TalePlayModel" "nAt" "[I") (by decide +kernel)) dX12_acts_253 ?_
    refine lv_aload_n hx hb dX12_acts_256 rfl (lv_at hl 0 rfl) ?_
    refine mget_24 hx hb hts (fun _ h => List.mem_cons_of_mem _ (List.mem_append_right _ h)) hown hK hP (hts (.fieldLink RX12 53 "TalePlayModel" "nAt" "[I") (by decide +kernel)) dX12_acts_257 ?_
    refine lv_aload_n hx hb dX12_acts_260 rfl (lv_at hl 0 rfl) ?_
    refine mget_22 (v := (i 22)) rfl hx hb hts (fun _ h => List.mem_cons_of_mem _ (List.mem_append_right _ h)) hown hK hP (hts (.fieldLink RX12 155 "TalePlayModel" "player" "I") (by decide +kernel)) dX12_acts_261 ?_
    refine mld_24 hx hb hK hP (vp_in_iff.mpr (by have h9 : (i 22).toInt = (i 22).toInt := rfl; omega)) dX12_acts_264 (fun x22 ex22 => ?_)
    have rx22 : x22.toInt = -9 ∨ (0 ≤ x22.toInt ∧ x22.toInt ≤ 29) := by rw [ex22]; exact hI.2 24 _
    have gx22 : (c 24 ((i 22) : Int32).toNatClampNeg).toInt = x22.toInt := by rw [ex22]
    refine mld_24 hx hb hK hP (vp_in_iff.mpr (by have h9 : x22.toInt = x22.toInt := rfl; omega)) dX12_acts_265 (fun x23 ex23 => ?_)
    have rx23 : x23.toInt = -9 ∨ (0 ≤ x23.toInt ∧ x23.toInt ≤ 29) := by rw [ex23]; exact hI.2 24 _
    have gx23 : (c 24 (x22 : Int32).toNatClampNeg).toInt = x23.toInt := by rw [ex23]
    refine al_callv (va_runV (As := [.int (i 22), .int x21, .int x23]) (rest := []) ⟨hx, hb, hml, hown, hts⟩ (s_X12_lay l D s.heap.size o a t i q c d (i 22) x21 x23 hI (show 0 ≤ (i 22).toInt ∧ (i 22).toInt ≤ 29 from by omega) (show x21.toInt = -9 ∨ (0 ≤ x21.toInt ∧ x21.toInt ≤ 4) from by omega) (show x23.toInt = -9 ∨ (0 ≤ x23.toInt ∧ x23.toInt ≤ 29) from by omega)) (cwV 3 hts gm_X12_acts_X12_lay rfl rfl rfl (by decide +kernel) ⟨Nat.le_of_ble_eq_true rfl, Nat.le_of_ble_eq_true rfl⟩) (pB_V hK hP hD (ci := 12) (q0 := 0) rfl rfl) rfl rfl hl.1 rfl (lv_room (Nat.le_of_ble_eq_true rfl)) dX12_acts_266 ⟨Nat.le_of_ble_eq_true rfl, Nat.le_of_ble_eq_true rfl⟩) hS hA hP hD (fun u24 H locs hw24 hP hD hS => ?_)
    obtain ⟨i24, q24, c24, d24⟩ := u24
    have hw24 : True ∧ mInv i24 c24 ∧ (∀ k, k ∉ ([] : List Nat) → i24 k = i k) ∧ (∀ k, k ∉ ([23, 24] : List Nat) → c24 k = c k) ∧ ((c24 23) = upd (c 23) (i 22).toNatClampNeg x21) ∧ ((c24 24) = upd (c 24) (i 22).toNatClampNeg x23) := hw24
    obtain ⟨hw24, hI, hei24, hec24, hxp24_0, hxp24_1⟩ := hw24
    have hxp24_0 : (c24 23) = upd (c 23) (i 22).toNatClampNeg x21 := hxp24_0
    have hxp24_1 : (c24 24) = upd (c 24) (i 22).toNatClampNeg x23 := hxp24_1
    have hfi : ∀ k, k ∉ ([] : List Nat) → i24 k = i k := fr_z hfi hei24 (by decide) (by decide)
    have hfc : ∀ k, k ∉ ([23, 24] : List Nat) → c24 k = c k := fr_z hfc hec24 (by decide) (by decide)
    have hP : va_P D vwCl (mW o a t i24 q24 c24 d24) H := hP
    have hD : va_D A (mW o a t i24 q24 c24 d24) := hD
    refine lv_goto (tgt := 272) hx hb dX12_acts_269 (by decide) ?_
    exact rw_vret (i24, q24, c24, d24) hx hb hr hlocks hS (hK.sub (tys' := []) [] rfl) hP hD dX12_acts_272 ⟨trivial, hI, fr_w hfi (by decide), fr_w hfc (by decide), (show TI (i 5).toInt (fun z => Kd (c 3) (c 6) z 0) (i 22).toInt (c24 23) (c24 24) from by rw [hxp24_0, hxp24_1]; exact TI_leave (at_ := x20) (by omega) hs_T rfl ex20 (by have h9 := hs_A.2.2.2.2.2 (by omega); rw [show (c 24 (i 22).toInt.toNat).toInt = x20.toInt from gx20] at h9; exact h9) ex21 (by rw [ex23, show x22 = x20 from ex22.trans ex20.symm]))⟩

def wm_X12_act : List Cond := .code yX12_act cX12_act 6 (some .int) :: (([.constantLong RX12 385 (12), .methodLink RX12 166 yX12_in, .static yX12_in, .initialized RX12, .code yX12_in cX12_in 6 (some .boolean), .constantLong RX12 387 (10), .methodLink RX12 389 yX12_hasSecond, .static yX12_hasSecond, .code yX12_hasSecond cX12_hasSecond 1 (some .boolean), .fieldLink RX12 155 "TalePlayModel" "player" "I", .methodLink RX12 392 yX12_lookAtKinds, .instanceMethod yX12_lookAtKinds, .selects RX12 yX12_lookAtKinds yX12_lookAtKinds, .code yX12_lookAtKinds cX12_lookAtKinds 2 none, .fieldLink RX12 177 "TalePlayModel" "objects" "I", .fieldLink RX12 92 "TalePlayModel" "lit" "[Z", .methodLink RX12 256 yX12_saidFlag, .instanceMethod yX12_saidFlag, .selects RX12 yX12_saidFlag yX12_saidFlag, .code yX12_saidFlag cX12_saidFlag 4 (some .int), .methodLink RX12 216 yX12_saidSo, .instanceMethod yX12_saidSo, .selects RX12 yX12_saidSo yX12_saidSo, .code yX12_saidSo cX12_saidSo 6 (some .int), .fieldLink RX12 202 "TalePlayModel" "sentences" "I", .fieldLink RX12 37 "TalePlayModel" "isSaid" "[Z", .fieldLink RX12 25 "TalePlayModel" "form" "[I", .fieldLink RX12 28 "TalePlayModel" "left" "[I", .fieldLink RX12 31 "TalePlayModel" "middle" "[I", .fieldLink RX12 34 "TalePlayModel" "right" "[I", .fieldLink RX12 19 "TalePlayModel" "kindOf" "[I", .methodLink RX12 184 yX12_isOf, .instanceMethod yX12_isOf, .selects RX12 yX12_isOf yX12_isOf, .code yX12_isOf cX12_isOf 4 (some .boolean), .fieldLink RX12 13 "TalePlayModel" "parentOf" "[I", .fieldLink RX12 16 "TalePlayModel" "defaults" "[I", .fieldLink RX12 98 "TalePlayModel" "isBox" "[Z", .fieldLink RX12 101 "TalePlayModel" "isRoom" "[Z", .fieldLink RX12 104 "TalePlayModel" "isDoor" "[Z", .fieldLink RX12 95 "TalePlayModel" "glass" "[Z", .methodLink RX12 395 yX12_lookAround, .instanceMethod yX12_lookAround, .selects RX12 yX12_lookAround yX12_lookAround, .code yX12_lookAround cX12_lookAround 3 none, .methodLink RX12 331 yX12_shellOf, .instanceMethod yX12_shellOf, .selects RX12 yX12_shellOf yX12_shellOf, .code yX12_shellOf cX12_shellOf 3 (some .int), .fieldLink RX12 53 "TalePlayModel" "nAt" "[I", .methodLink RX12 324 yX12_shuts, .instanceMethod yX12_shuts, .selects RX12 yX12_shuts yX12_shuts, .code yX12_shuts cX12_shuts 3 (some .boolean), .fieldLink RX12 56 "TalePlayModel" "nOpen" "[Z", .fieldLink RX12 335 "TalePlayModel" "shell" "I", .fieldLink RX12 338 "TalePlayModel" "handShell" "I", .fieldLink RX12 341 "TalePlayModel" "isLight" "Z", .fieldLink RX12 86 "TalePlayModel" "seen" "[Z", .fieldLink RX12 89 "TalePlayModel" "reached" "[Z", .methodLink RX12 344 yX12_isInView, .instanceMethod yX12_isInView, .selects RX12 yX12_isInView yX12_isInView, .code yX12_isInView cX12_isInView 5 (some .boolean), .fieldLink RX12 50 "TalePlayModel" "nForm" "[I", .methodLink RX12 328 yX12_isSide, .instanceMethod yX12_isSide, .selects RX12 yX12_isSide yX12_isSide, .code yX12_isSide cX12_isSide 4 (some .boolean), .methodLink RX12 398 yX12_whyNot, .instanceMethod yX12_whyNot, .selects RX12 yX12_whyNot yX12_whyNot, .code yX12_whyNot cX12_whyNot 4 (some .int), .methodLink RX12 361 yX12_whyNotGo, .instanceMethod yX12_whyNotGo, .selects RX12 yX12_whyNotGo yX12_whyNotGo, .code yX12_whyNotGo cX12_whyNotGo 2 (some .int), .methodLink RX12 348 yX12_isInRoom, .instanceMethod yX12_isInRoom, .selects RX12 yX12_isInRoom yX12_isInRoom, .code yX12_isInRoom cX12_isInRoom 1 (some .boolean), .methodLink RX12 281 yX12_findExit, .instanceMethod yX12_findExit, .selects RX12 yX12_findExit yX12_findExit, .code yX12_findExit cX12_findExit 6 (some .boolean), .fieldLink RX12 263 "TalePlayModel" "leads" "I", .fieldLink RX12 266 "TalePlayModel" "byDoor" "I", .fieldLink RX12 269 "TalePlayModel" "bySentence" "I", .fieldLink RX12 272 "TalePlayModel" "isImplied" "Z", .methodLink RX12 276 yX12_otherSide, .instanceMethod yX12_otherSide, .selects RX12 yX12_otherSide yX12_otherSide, .code yX12_otherSide cX12_otherSide 4 (some .int), .methodLink RX12 364 yX12_whyNotTake, .instanceMethod yX12_whyNotTake, .selects RX12 yX12_whyNotTake yX12_whyNotTake, .code yX12_whyNotTake cX12_whyNotTake 4 (some .int), .methodLink RX12 352 yX12_isUpFrom, .instanceMethod yX12_isUpFrom, .selects RX12 yX12_isUpFrom yX12_isUpFrom, .code yX12_isUpFrom cX12_isUpFrom 4 (some .boolean), .methodLink RX12 355 yX12_holds, .instanceMethod yX12_holds, .selects RX12 yX12_holds yX12_holds, .code yX12_holds cX12_holds 2 (some .boolean), .methodLink RX12 194 yX12_isGoods, .instanceMethod yX12_isGoods, .selects RX12 yX12_isGoods yX12_isGoods, .code yX12_isGoods cX12_isGoods 2 (some .boolean), .methodLink RX12 188 yX12_isMovable, .instanceMethod yX12_isMovable, .selects RX12 yX12_isMovable yX12_isMovable, .code yX12_isMovable cX12_isMovable 2 (some .boolean), .methodLink RX12 315 yX12_bulkOf, .instanceMethod yX12_bulkOf, .selects RX12 yX12_bulkOf yX12_bulkOf, .code yX12_bulkOf cX12_bulkOf 6 (some .int), .methodLink RX12 306 yX12_beginBulk, .instanceMethod yX12_beginBulk, .selects RX12 yX12_beginBulk yX12_beginBulk, .code yX12_beginBulk cX12_beginBulk 3 (some .int), .fieldLink RX12 80 "TalePlayModel" "pile" "[I", .fieldLink RX12 83 "TalePlayModel" "nextIn" "[I", .methodLink RX12 300 yX12_body, .instanceMethod yX12_body, .selects RX12 yX12_body yX12_body, .code yX12_body cX12_body 2 none, .fieldLink RX12 294 "TalePlayModel" "traces" "Z", .fieldLink RX12 297 "TalePlayModel" "traced" "I", .fieldLink RX12 77 "TalePlayModel" "trace" "[I", .fieldLink RX12 22 "TalePlayModel" "sizeOf" "[I", .methodLink RX12 309 yX12_formNow, .instanceMethod yX12_formNow, .selects RX12 yX12_formNow yX12_formNow, .code yX12_formNow cX12_formNow 3 (some .int), .methodLink RX12 208 yX12_placing, .instanceMethod yX12_placing, .selects RX12 yX12_placing yX12_placing, .code yX12_placing cX12_placing 3 (some .int), .methodLink RX12 312 yX12_atNow, .instanceMethod yX12_atNow, .selects RX12 yX12_atNow yX12_atNow, .code yX12_atNow cX12_atNow 3 (some .int), .fieldLink RX12 303 "TalePlayModel" "isNought" "Z", .methodLink RX12 367 yX12_whyNotPut, .instanceMethod yX12_whyNotPut, .selects RX12 yX12_whyNotPut yX12_whyNotPut, .code yX12_whyNotPut cX12_whyNotPut 4 (some .int), .methodLink RX12 358 yX12_lying, .instanceMethod yX12_lying, .selects RX12 yX12_lying yX12_lying, .code yX12_lying cX12_lying 5 (some .int), .methodLink RX12 371 yX12_whyNotTurn, .instanceMethod yX12_whyNotTurn, .selects RX12 yX12_whyNotTurn yX12_whyNotTurn, .code yX12_whyNotTurn cX12_whyNotTurn 4 (some .int), .methodLink RX12 191 yX12_isShutter, .instanceMethod yX12_isShutter, .selects RX12 yX12_isShutter yX12_isShutter, .code yX12_isShutter cX12_isShutter 2 (some .boolean), .methodLink RX12 260 yX12_keyOf, .instanceMethod yX12_keyOf, .selects RX12 yX12_keyOf yX12_keyOf, .code yX12_keyOf cX12_keyOf 3 (some .int), .fieldLink RX12 59 "TalePlayModel" "nLocked" "[Z", .methodLink RX12 375 yX12_whyNotEnter, .instanceMethod yX12_whyNotEnter, .selects RX12 yX12_whyNotEnter yX12_whyNotEnter, .code yX12_whyNotEnter cX12_whyNotEnter 2 (some .int), .methodLink RX12 378 yX12_whyNotLeave, .instanceMethod yX12_whyNotLeave, .selects RX12 yX12_whyNotLeave yX12_whyNotLeave, .code yX12_whyNotLeave cX12_whyNotLeave 2 (some .int), .fieldLink RX12 62 "TalePlayModel" "turnRow" "[I", .fieldLink RX12 291 "TalePlayModel" "turns" "I", .methodLink RX12 401 yX12_acts, .instanceMethod yX12_acts, .selects RX12 yX12_acts yX12_acts, .code yX12_acts cX12_acts 5 none, .methodLink RX12 381 yX12_lay, .instanceMethod yX12_lay, .selects RX12 yX12_lay yX12_lay, .code yX12_lay cX12_lay 4 none, .fieldLink RX12 65 "TalePlayModel" "wasForm" "[I", .fieldLink RX12 68 "TalePlayModel" "wasAt" "[I", .fieldLink RX12 71 "TalePlayModel" "wasOpen" "[Z", .fieldLink RX12 74 "TalePlayModel" "wasLocked" "[Z", .methodLink RX12 180 yX12_isObject, .instanceMethod yX12_isObject, .selects RX12 yX12_isObject yX12_isObject, .code yX12_isObject cX12_isObject 2 (some .boolean), .constantLong RX12 197 (9)] : List Cond) ++ wsX120)
set_option maxRecDepth 20000 in
theorem gm_X12_act_X12_in : GoodIn wm_X12_act (va_wsS RX12 166 yX12_in wm_X12_in) := goodIn_app (goodIn_of _ (by decide +kernel)) (goodIn_r _ [5] (by decide +kernel) (by decide +kernel))
set_option maxRecDepth 20000 in
theorem gm_X12_act_X12_hasSecond : GoodIn wm_X12_act (va_wsS RX12 389 yX12_hasSecond wm_X12_hasSecond) := goodIn_app (goodIn_of _ (by decide +kernel)) (goodIn_r _ [9] (by decide +kernel) (by decide +kernel))
set_option maxRecDepth 20000 in
theorem gm_X12_act_X12_lookAtKinds : GoodIn wm_X12_act (wsV RX12 392 RX12 yX12_lookAtKinds wm_X12_lookAtKinds) := goodIn_app (goodIn_of _ (by decide +kernel)) (goodIn_r _ [14, 15, 16, 17, 18, 19, 4, 20, 21, 22, 23, 24, 25, 26, 27, 28, 29, 30, 31, 32, 33, 34, 35, 36, 37, 38, 39, 40, 41, 193, 194, 195, 196, 197, 198, 199, 200, 201, 202, 203, 204, 205, 206, 207, 208, 209, 210, 211, 212, 213, 214, 215, 216, 217, 218, 219, 220, 221, 222, 223, 224, 225, 226, 227, 228, 229, 230, 231, 232, 233, 234, 235, 236, 237, 238, 239, 240, 241, 242, 243, 244, 245, 246, 247, 248, 249, 250, 251, 252, 253, 254, 255, 256, 257, 258, 259, 260, 261] (by decide +kernel) (by decide +kernel))
set_option maxRecDepth 20000 in
theorem gm_X12_act_X12_lookAround : GoodIn wm_X12_act (wsV RX12 395 RX12 yX12_lookAround wm_X12_lookAround) := goodIn_app (goodIn_of _ (by decide +kernel)) (goodIn_r _ [45, 46, 47, 48, 4, 49, 50, 10, 39, 51, 52, 53, 54, 38, 55, 41, 56, 57, 58, 15, 59, 60, 61, 62, 63, 64, 40, 65, 66, 67, 68, 69, 25, 26, 27, 29, 28, 16, 193, 194, 195, 196, 197, 198, 199, 200, 201, 202, 203, 204, 205, 206, 207, 208, 209, 210, 211, 212, 213, 214, 215, 216, 217, 218, 219, 220, 221, 222, 223, 224, 225, 226, 227, 228, 229, 230, 231, 232, 233, 234, 235, 236, 237, 238, 239, 240, 241, 242, 243, 244, 245, 246, 247, 248, 249, 250, 251, 252, 253, 254, 255, 256, 257, 258, 259, 260, 261] (by decide +kernel) (by decide +kernel))
set_option maxRecDepth 20000 in
theorem gm_X12_act_X12_whyNot : GoodIn wm_X12_act (wsV RX12 398 RX12 yX12_whyNot wm_X12_whyNot) := goodIn_app (goodIn_of _ (by decide +kernel)) (goodIn_r _ [73, 74, 75, 76, 4, 77, 78, 79, 80, 81, 65, 10, 39, 50, 82, 83, 84, 85, 86, 87, 88, 89, 25, 28, 29, 32, 33, 34, 35, 31, 36, 90, 91, 92, 93, 26, 27, 30, 55, 94, 95, 96, 97, 59, 98, 99, 100, 101, 102, 103, 104, 105, 106, 107, 108, 109, 110, 111, 112, 113, 17, 18, 19, 20, 21, 22, 23, 24, 37, 60, 114, 115, 116, 117, 118, 119, 120, 121, 122, 123, 124, 125, 126, 127, 128, 129, 130, 131, 15, 132, 133, 134, 135, 136, 137, 138, 139, 140, 141, 142, 143, 144, 145, 146, 147, 148, 149, 150, 151, 152, 38, 153, 154, 155, 156, 157, 158, 159, 160, 161, 162, 163, 164, 165, 166, 167, 168, 169, 170, 171, 172, 173, 193, 194, 195, 196, 197, 198, 199, 200, 201, 202, 203, 204, 205, 206, 207, 208, 209, 210, 211, 212, 213, 214, 215, 216, 217, 218, 219, 220, 221, 222, 223, 224, 225, 226, 227, 228, 229, 230, 231, 232, 233, 234, 235, 236, 237, 238, 239, 240, 241, 242, 243, 244, 245, 246, 247, 248, 249, 250, 251, 252, 253, 254, 255, 256, 257, 258, 259, 260, 261] (by decide +kernel) (by decide +kernel))
set_option maxRecDepth 20000 in
theorem gm_X12_act_X12_acts : GoodIn wm_X12_act (wsV RX12 401 RX12 yX12_acts wm_X12_acts) := goodIn_app (goodIn_of _ (by decide +kernel)) (goodIn_r _ [179, 50, 10, 82, 83, 84, 4, 85, 86, 87, 88, 89, 25, 28, 29, 32, 33, 34, 35, 31, 36, 90, 91, 92, 93, 26, 27, 30, 180, 181, 182, 183, 65, 55, 165, 38, 193, 194, 195, 196, 197, 198, 199, 200, 201, 202, 203, 204, 205, 206, 207, 208, 209, 210, 211, 212, 213, 214, 215, 216, 217, 218, 219, 220, 221, 222, 223, 224, 225, 226, 227, 228, 229, 230, 231, 232, 233, 234, 235, 236, 237, 238, 239, 240, 241, 242, 243, 244, 245, 246, 247, 248, 249, 250, 251, 252, 253, 254, 255, 256, 257, 258, 259, 260, 261] (by decide +kernel) (by decide +kernel))
set_option maxRecDepth 20000 in
theorem gm_X12_act_X12_isObject : GoodIn wm_X12_act (wsV RX12 180 RX12 yX12_isObject wm_X12_isObject) := goodIn_app (goodIn_of _ (by decide +kernel)) (goodIn_r _ [191, 15, 2, 3, 4, 5, 193, 194, 195, 196, 197, 198, 199, 200, 201, 202, 203, 204, 205, 206, 207, 208, 209, 210, 211, 212, 213, 214, 215, 216, 217, 218, 219, 220, 221, 222, 223, 224, 225, 226, 227, 228, 229, 230, 231, 232, 233, 234, 235, 236, 237, 238, 239, 240, 241, 242, 243, 244, 245, 246, 247, 248, 249, 250, 251, 252, 253, 254, 255, 256, 257, 258, 259, 260, 261] (by decide +kernel) (by decide +kernel))
set_option maxHeartbeats 4000000 in
set_option maxRecDepth 100000 in
theorem s_X12_act (l : Launch) (D : va_G) (sz : Nat) (o : Nat) (a : Nat → Nat) (t : Nat → ClassId) (i : Nat → Int32) (q : Int64) (c : Nat → Nat → Int32) (d : Nat → Nat → Int64) (v1 : Int32) (w1 : Int32) (w2 : Int32) (hI : mInv i c) (hs_S : SJ (c 3) (c 6) (c 9) (c 10) (c 11) (c 13) (i 2).toInt (i 5).toInt (i 8).toInt) (hs_J : TJ (c 3) (c 6) (c 23) (c 24) (c 29) (c 30) (i 5).toInt (i 22).toInt (i 27).toInt) : Met l yX12_act wm_X12_act ({ frames := 5, cells := 0, slots := 0, locals := 116 }) (va_Pc [.ref o, .int v1, .int w1, .int w2] (pB D sz (mW o a t i q c d) (mT t))) (va_Qi (fun (r : Int32) (u : MS) => True ∧ mInv u.1 u.2.2.1 ∧ (∀ k, k ∉ ([16, 17, 18, 19, 27, 35, 36, 40, 41, 42] : List Nat) → u.1 k = i k) ∧ (∀ k, k ∉ ([23, 24, 25, 26, 28, 29, 30, 31, 32, 34, 38, 39, 43, 44, 45, 46, 47, 48, 49] : List Nat) → u.2.2.1 k = c k) ∧ (SJ (u.2.2.1 3) (u.2.2.1 6) (u.2.2.1 9) (u.2.2.1 10) (u.2.2.1 11) (u.2.2.1 13) (u.1 2).toInt (u.1 5).toInt (u.1 8).toInt) ∧ (TJ (u.2.2.1 3) (u.2.2.1 6) (u.2.2.1 23) (u.2.2.1 24) (u.2.2.1 29) (u.2.2.1 30) (u.1 5).toInt (u.1 22).toInt (u.1 27).toInt)) (oC D (va_A (mW o a t i q c d) sz) (fun u : MS => mW o a t u.1 u.2.1 u.2.2.1 u.2.2.2) (fun _ => [])) (va_A (mW o a t i q c d) sz)) 0 0 (va_A (mW o a t i q c d) sz) := by
  refine Met.ofW (cc := cX12_act) (maxL := 6) (ret := (some .int)) (by decide) rfl ?_
  intro p e s m args below meth cd s₁ B hml hv
  obtain ⟨rfl, hsz, hP, hK, hD0⟩ := hv
  have hx := B.exec
  have hb := B.bytes
  have hr := B.returns
  have hts := atoms_spec (ws := wm_X12_act) B.pre
  have hown : s.vm.findClass RX12 = some m.cls := findClass_of_methodNamed B.named
  have hlocks := B.notSynchronized
  subst hsz
  have hD := hD0.self (sz := s.heap.size)
  generalize hAe : va_A (mW o a t i q c d) s.heap.size = A at hD ⊢
  have hA : ∀ q : Nat, s.heap.size ≤ q → A q := fun q h => by rw [← hAe]; exact Or.inr h
  have hS : va_S A s.heap s.heap [] := va_S.rf
  have hfi : ∀ k, k ∉ ([] : List Nat) → i k = i k := fun _ _ => rfl
  have hfc : ∀ k, k ∉ ([] : List Nat) → c k = c k := fun _ _ => rfl
  have hl := lv_entry ([.ref o, .int v1, .int w1, .int w2]) (n := 6) (Nat.le_of_ble_eq_true rfl)
  rw [lg_entry_eq]
  generalize (lg_sl ([.ref o, .int v1, .int w1, .int w2]) ++ List.replicate (6 - (lg_sl ([.ref o, .int v1, .int w1, .int w2])).length) Slot.unset).toArray = ls at hl ⊢
  have hl : lv_has ls 6 [(0, .ref o), (1, .int v1), (2, .int w1), (3, .int w2)] := hl
  have rb5_i : 0 ≤ (i 5).toInt ∧ (i 5).toInt ≤ 30 := hI.1 5
  have rb22_i : (i 22).toInt = -9 ∨ (0 ≤ (i 22).toInt ∧ (i 22).toInt ≤ 29) := hI.1 22
  have rb27_i : 0 ≤ (i 27).toInt ∧ (i 27).toInt ≤ 100 := hI.1 27
  refine lv_iload_n hx hb dX12_act_0 rfl (lv_at hl 1 rfl) ?_
  refine lv_i2l (v := v1.toInt64) hx hb dX12_act_1 rfl ?_
  refine lv_lconst (v := 0) hx hb dX12_act_2 (by decide) ?_
  refine lv_ldc2 (v := 12) hx hb hown (hts (.constantLong RX12 385 (12)) (by decide +kernel)) dX12_act_3 ?_
  have hPc := hP.sub (ws' := []) [] rfl
  have hKc := hK.sub (tys' := []) [] rfl
  refine ro_calli (va_runS (As := [.long v1.toInt64, .long 0, .long 12]) (rest := []) ⟨hx, hb, hml, hown, hts⟩ (c_X12_in l D s.heap.size v1.toInt64 0 12 v1.toInt 0 12 ((Int32.toInt_toInt64 v1).trans rfl) (by decide) (by decide)) (va_cwS 3 hts gm_X12_act_X12_in rfl rfl rfl (by decide +kernel) ⟨Nat.le_of_ble_eq_true rfl, Nat.le_of_ble_eq_true rfl⟩) (pA_S hKc hPc) rfl rfl hl.1 rfl (lv_room (Nat.le_of_ble_eq_true rfl)) dX12_act_6 ⟨Nat.le_of_ble_eq_true rfl, Nat.le_of_ble_eq_true rfl⟩) hS hA hP (fun r1 u1 H locs hw1 hP hS => ?_)
  have hw1 : r1 = if (0 ≤ v1.toInt ∧ v1.toInt ≤ 12) then 1 else 0 := hw1
  refine lv_if_eq (tgt := 63) hx hb dX12_act_9 (by decide) (fun c2 => ?_) (fun c2 => ?_)
  · have f2 := fl_f hw1 c2
    refine lv_iconst (v := (-1)) hx hb dX12_act_63 (by decide) ?_
    exact rw_iret (i, q, c, d) hx hb hr hlocks hS (hK.sub (tys' := []) [] rfl) hP hD dX12_act_64 ⟨trivial, hI, fr_w hfi (by decide), fr_w hfc (by decide), (show SJ (c 3) (c 6) (c 9) (c 10) (c 11) (c 13) ((i 2) : Int32).toInt ((i 5) : Int32).toInt ((i 8) : Int32).toInt from hs_S), (show TJ (c 3) (c 6) (c 23) (c 24) (c 29) (c 30) ((i 5) : Int32).toInt ((i 22) : Int32).toInt ((i 27) : Int32).toInt from hs_J)⟩
  · have f2 := fl_t hw1 c2
    refine lv_iload_n hx hb dX12_act_12 rfl (lv_at hl 1 rfl) ?_
    have jn3 : (v1.toInt = 0 → 0 ≤ w1.toInt ∧ w1.toInt ≤ 9) → ∀ (H : Heap) (locs : List Loc) (ls : Array Slot), va_P D vwCl (mW o a t i q c d) H → va_D A (mW o a t i q c d) → va_S A s.heap H locs → lv_has ls 6 [(0, .ref o), (1, .int v1), (2, .int w1), (3, .int w2)] → W p l e (headSpec wm_X12_act ({ frames := 5, cells := 0, slots := 0, locals := 116 })).room s m ([.ref o, .int v1, .int w1, .int w2] : List Value).toArray below meth cd H locs 0 0 (MQ below (va_Qi (fun (r : Int32) (u : MS) => True ∧ mInv u.1 u.2.2.1 ∧ (∀ k, k ∉ ([16, 17, 18, 19, 27, 35, 36, 40, 41, 42] : List Nat) → u.1 k = i k) ∧ (∀ k, k ∉ ([23, 24, 25, 26, 28, 29, 30, 31, 32, 34, 38, 39, 43, 44, 45, 46, 47, 48, 49] : List Nat) → u.2.2.1 k = c k) ∧ (SJ (u.2.2.1 3) (u.2.2.1 6) (u.2.2.1 9) (u.2.2.1 10) (u.2.2.1 11) (u.2.2.1 13) (u.1 2).toInt (u.1 5).toInt (u.1 8).toInt) ∧ (TJ (u.2.2.1 3) (u.2.2.1 6) (u.2.2.1 23) (u.2.2.1 24) (u.2.2.1 29) (u.2.2.1 30) (u.1 5).toInt (u.1 22).toInt (u.1 27).toInt)) (oC D A (fun u : MS => mW o a t u.1 u.2.1 u.2.2.1 u.2.2.2) (fun _ => [])) A) ([.ref o, .int v1, .int w1, .int w2] : List Value).toArray s 0 0 A) (F0 m 28 ls []) := by
      intro hz3_0 H locs ls hP hD hS hl
      refine lv_iload_n hx hb dX12_act_28 rfl (lv_at hl 1 rfl) ?_
      refine lv_i2l (v := v1.toInt64) hx hb dX12_act_29 rfl ?_
      refine lv_lconst (v := 1) hx hb dX12_act_30 (by decide) ?_
      refine lv_ldc2 (v := 10) hx hb hown (hts (.constantLong RX12 387 (10)) (by decide +kernel)) dX12_act_31 ?_
      have hPc := hP.sub (ws' := []) [] rfl
      have hKc := hK.sub (tys' := []) [] rfl
      refine ro_calli (va_runS (As := [.long v1.toInt64, .long 1, .long 10]) (rest := []) ⟨hx, hb, hml, hown, hts⟩ (c_X12_in l D H.size v1.toInt64 1 10 v1.toInt 1 10 ((Int32.toInt_toInt64 v1).trans rfl) (by decide) (by decide)) (va_cwS 3 hts gm_X12_act_X12_in rfl rfl rfl (by decide +kernel) ⟨Nat.le_of_ble_eq_true rfl, Nat.le_of_ble_eq_true rfl⟩) (pA_S hKc hPc) rfl rfl hl.1 rfl (lv_room (Nat.le_of_ble_eq_true rfl)) dX12_act_34 ⟨Nat.le_of_ble_eq_true rfl, Nat.le_of_ble_eq_true rfl⟩) hS hA hP (fun r4 u4 H locs hw4 hP hS => ?_)
      have hw4 : r4 = if (1 ≤ v1.toInt ∧ v1.toInt ≤ 10) then 1 else 0 := hw4
      have jn5 : (1 ≤ v1.toInt ∧ v1.toInt ≤ 10 → 0 ≤ w1.toInt ∧ w1.toInt < (i 5).toInt) → ∀ (H : Heap) (locs : List Loc) (ls : Array Slot), va_P D vwCl (mW o a t i q c d) H → va_D A (mW o a t i q c d) → va_S A s.heap H locs → lv_has ls 6 [(0, .ref o), (1, .int v1), (2, .int w1), (3, .int w2)] → W p l e (headSpec wm_X12_act ({ frames := 5, cells := 0, slots := 0, locals := 116 })).room s m ([.ref o, .int v1, .int w1, .int w2] : List Value).toArray below meth cd H locs 0 0 (MQ below (va_Qi (fun (r : Int32) (u : MS) => True ∧ mInv u.1 u.2.2.1 ∧ (∀ k, k ∉ ([16, 17, 18, 19, 27, 35, 36, 40, 41, 42] : List Nat) → u.1 k = i k) ∧ (∀ k, k ∉ ([23, 24, 25, 26, 28, 29, 30, 31, 32, 34, 38, 39, 43, 44, 45, 46, 47, 48, 49] : List Nat) → u.2.2.1 k = c k) ∧ (SJ (u.2.2.1 3) (u.2.2.1 6) (u.2.2.1 9) (u.2.2.1 10) (u.2.2.1 11) (u.2.2.1 13) (u.1 2).toInt (u.1 5).toInt (u.1 8).toInt) ∧ (TJ (u.2.2.1 3) (u.2.2.1 6) (u.2.2.1 23) (u.2.2.1 24) (u.2.2.1 29) (u.2.2.1 30) (u.1 5).toInt (u.1 22).toInt (u.1 27).toInt)) (oC D A (fun u : MS => mW o a t u.1 u.2.1 u.2.2.1 u.2.2.2) (fun _ => [])) A) ([.ref o, .int v1, .int w1, .int w2] : List Value).toArray s 0 0 A) (F0 m 48 ls []) := by
        intro hz5_0 H locs ls hP hD hS hl
        refine lv_iload_n hx hb dX12_act_48 rfl (lv_at hl 1 rfl) ?_
        have hPc := hP.sub (ws' := []) [] rfl
        have hKc := hK.sub (tys' := []) [] rfl
        refine ro_calli (va_runS (As := [.int v1]) (rest := []) ⟨hx, hb, hml, hown, hts⟩ (c_X12_hasSecond l D H.size v1) (va_cwS 1 hts gm_X12_act_X12_hasSecond rfl rfl rfl (by decide +kernel) ⟨Nat.le_of_ble_eq_true rfl, Nat.le_of_ble_eq_true rfl⟩) (pA_S hKc hPc) rfl rfl hl.1 rfl (lv_room (Nat.le_of_ble_eq_true rfl)) dX12_act_49 ⟨Nat.le_of_ble_eq_true rfl, Nat.le_of_ble_eq_true rfl⟩) hS hA hP (fun r6 u6 H locs hw6 hP hS => ?_)
        have hw6 : r6 = if (v1.toInt = 3 ∨ v1.toInt = 4 ∨ v1.toInt = 7 ∨ v1.toInt = 8) then 1 else 0 := hw6
        have jn7 : (v1.toInt = 3 ∨ v1.toInt = 4 ∨ v1.toInt = 7 ∨ v1.toInt = 8 → 0 ≤ w2.toInt ∧ w2.toInt < (i 5).toInt) → ∀ (H : Heap) (locs : List Loc) (ls : Array Slot), va_P D vwCl (mW o a t i q c d) H → va_D A (mW o a t i q c d) → va_S A s.heap H locs → lv_has ls 6 [(0, .ref o), (1, .int v1), (2, .int w1), (3, .int w2)] → W p l e (headSpec wm_X12_act ({ frames := 5, cells := 0, slots := 0, locals := 116 })).room s m ([.ref o, .int v1, .int w1, .int w2] : List Value).toArray below meth cd H locs 0 0 (MQ below (va_Qi (fun (r : Int32) (u : MS) => True ∧ mInv u.1 u.2.2.1 ∧ (∀ k, k ∉ ([16, 17, 18, 19, 27, 35, 36, 40, 41, 42] : List Nat) → u.1 k = i k) ∧ (∀ k, k ∉ ([23, 24, 25, 26, 28, 29, 30, 31, 32, 34, 38, 39, 43, 44, 45, 46, 47, 48, 49] : List Nat) → u.2.2.1 k = c k) ∧ (SJ (u.2.2.1 3) (u.2.2.1 6) (u.2.2.1 9) (u.2.2.1 10) (u.2.2.1 11) (u.2.2.1 13) (u.1 2).toInt (u.1 5).toInt (u.1 8).toInt) ∧ (TJ (u.2.2.1 3) (u.2.2.1 6) (u.2.2.1 23) (u.2.2.1 24) (u.2.2.1 29) (u.2.2.1 30) (u.1 5).toInt (u.1 22).toInt (u.1 27).toInt)) (oC D A (fun u : MS => mW o a t u.1 u.2.1 u.2.2.1 u.2.2.2) (fun _ => [])) A) ([.ref o, .int v1, .int w1, .int w2] : List Value).toArray s 0 0 A) (F0 m 65 ls []) := by
          intro hz7_0 H locs ls hP hD hS hl
          refine lv_aload_n hx hb dX12_act_65 rfl (lv_at hl 0 rfl) ?_
          refine mget_22 (v := (i 22)) rfl hx hb hts (fun _ h => List.mem_cons_of_mem _ (List.mem_append_right _ h)) hown hK hP (hts (.fieldLink RX12 155 "TalePlayModel" "player" "I") (by decide +kernel)) dX12_act_66 ?_
          refine lv_bipush (v := (-9)) hx hb dX12_act_69 (by decide) ?_
          have jn8 : ((i 22).toInt = -9 ∨ ¬ (i 27).toInt = 100) → ∀ (H : Heap) (locs : List Loc) (ls : Array Slot), va_P D vwCl (mW o a t i q c d) H → va_D A (mW o a t i q c d) → va_S A s.heap H locs → lv_has ls 6 [(0, .ref o), (1, .int v1), (2, .int w1), (3, .int w2)] → W p l e (headSpec wm_X12_act ({ frames := 5, cells := 0, slots := 0, locals := 116 })).room s m ([.ref o, .int v1, .int w1, .int w2] : List Value).toArray below meth cd H locs 0 0 (MQ below (va_Qi (fun (r : Int32) (u : MS) => True ∧ mInv u.1 u.2.2.1 ∧ (∀ k, k ∉ ([16, 17, 18, 19, 27, 35, 36, 40, 41, 42] : List Nat) → u.1 k = i k) ∧ (∀ k, k ∉ ([23, 24, 25, 26, 28, 29, 30, 31, 32, 34, 38, 39, 43, 44, 45, 46, 47, 48, 49] : List Nat) → u.2.2.1 k = c k) ∧ (SJ (u.2.2.1 3) (u.2.2.1 6) (u.2.2.1 9) (u.2.2.1 10) (u.2.2.1 11) (u.2.2.1 13) (u.1 2).toInt (u.1 5).toInt (u.1 8).toInt) ∧ (TJ (u.2.2.1 3) (u.2.2.1 6) (u.2.2.1 23) (u.2.2.1 24) (u.2.2.1 29) (u.2.2.1 30) (u.1 5).toInt (u.1 22).toInt (u.1 27).toInt)) (oC D A (fun u : MS => mW o a t u.1 u.2.1 u.2.2.1 u.2.2.2) (fun _ => [])) A) ([.ref o, .int v1, .int w1, .int w2] : List Value).toArray s 0 0 A) (F0 m 86 ls []) := by
            intro hz8_0 H locs ls hP hD hS hl
            refine lv_aload_n hx hb dX12_act_86 rfl (lv_at hl 0 rfl) ?_
            refine mget_22 (v := (i 22)) rfl hx hb hts (fun _ h => List.mem_cons_of_mem _ (List.mem_append_right _ h)) hown hK hP (hts (.fieldLink RX12 155 "TalePlayModel" "player" "I") (by decide +kernel)) dX12_act_87 ?_
            refine lv_bipush (v := (-9)) hx hb dX12_act_90 (by decide) ?_
            refine lv_icmp_ne (tgt := 98) hx hb dX12_act_92 (by decide) (fun c9 => ?_) (fun c9 => ?_)
            · have f9 := mt (ti_eq (a := (i 22).toInt) (b := (-9)) rfl (by decide)).mpr c9
              have hs_T : TI (i 5).toInt (fun z => Kd (c 3) (c 6) z 0) (i 22).toInt (c 23) (c 24) := (hs_J (by omega)).2.1
              have hs_P : Kd (c 3) (c 6) (i 22).toInt 5 := (hs_J (by omega)).1
              have hs_G : Acy (gF (c 9) (c 10) (c 11) (c 13) (c 23) (c 24) (i 8).toInt (i 5).toInt (i 22).toInt) := gF_acy hs_S hs_J
              refine lv_aload_n hx hb dX12_act_98 rfl (lv_at hl 0 rfl) ?_
              refine al_callv (va_runV (As := []) (rest := []) ⟨hx, hb, hml, hown, hts⟩ (s_X12_lookAtKinds l D H.size o a t i q c d  hI ) (cwV 0 hts gm_X12_act_X12_lookAtKinds rfl rfl rfl (by decide +kernel) ⟨Nat.le_of_ble_eq_true rfl, Nat.le_of_ble_eq_true rfl⟩) (pB_V hK hP hD (ci := 12) (q0 := 0) rfl rfl) rfl rfl hl.1 rfl (lv_room (Nat.le_of_ble_eq_true rfl)) dX12_act_99 ⟨Nat.le_of_ble_eq_true rfl, Nat.le_of_ble_eq_true rfl⟩) hS hA hP hD (fun u10 H locs hw10 hP hD hS => ?_)
              obtain ⟨i10, q10, c10, d10⟩ := u10
              have hw10 : True ∧ mInv i10 c10 ∧ (∀ k, k ∉ ([] : List Nat) → i10 k = i k) ∧ (∀ k, k ∉ ([45, 46, 47, 48, 49] : List Nat) → c10 k = c k) ∧ (Cc (c 3) (c 6) (c10 47) (c10 48) (c10 49) (i 5).toInt) := hw10
              obtain ⟨hw10, hI, hei10, hec10, hxp10_0⟩ := hw10
              have hxp10_0 : Cc (c 3) (c 6) (c10 47) (c10 48) (c10 49) (i 5).toInt := hxp10_0
              have hfi : ∀ k, k ∉ ([] : List Nat) → i10 k = i k := fr_z hfi hei10 (by decide) (by decide)
              have hfc : ∀ k, k ∉ ([45, 46, 47, 48, 49] : List Nat) → c10 k = c k := fr_z hfc hec10 (by decide) (by decide)
              have hP : va_P D vwCl (mW o a t i10 q10 c10 d10) H := hP
              have hD : va_D A (mW o a t i10 q10 c10 d10) := hD
              have hs_C := hxp10_0
              refine lv_aload_n hx hb dX12_act_102 rfl (lv_at hl 0 rfl) ?_
              have rb5_i10 : 0 ≤ (i10 5).toInt ∧ (i10 5).toInt ≤ 30 := hI.1 5
              have re5_i10 : (i10 5).toInt = (i 5).toInt := congrArg Int32.toInt (hfi 5 (by decide))
              have rb22_i10 : (i10 22).toInt = -9 ∨ (0 ≤ (i10 22).toInt ∧ (i10 22).toInt ≤ 29) := hI.1 22
              have re22_i10 : (i10 22).toInt = (i 22).toInt := congrArg Int32.toInt (hfi 22 (by decide))
              refine al_callv (va_runV (As := []) (rest := []) ⟨hx, hb, hml, hown, hts⟩ (s_X12_lookAround l D H.size o a t i10 q10 c10 d10  hI (by rw [show c10 3 = c 3 from hfc 3 (by decide), show c10 6 = c 6 from hfc 6 (by decide), show c10 23 = c 23 from hfc 23 (by decide), show c10 24 = c 24 from hfc 24 (by decide), show i10 5 = i 5 from hfi 5 (by decide), show i10 22 = i 22 from hfi 22 (by decide)]; exact hs_T) (by rw [show c10 3 = c 3 from hfc 3 (by decide), show c10 6 = c 6 from hfc 6 (by decide), show i10 5 = i 5 from hfi 5 (by decide)]; exact hs_C)) (cwV 0 hts gm_X12_act_X12_lookAround rfl rfl rfl (by decide +kernel) ⟨Nat.le_of_ble_eq_true rfl, Nat.le_of_ble_eq_true rfl⟩) (pB_V hK hP hD (ci := 12) (q0 := 0) rfl rfl) rfl rfl hl.1 rfl (lv_room (Nat.le_of_ble_eq_true rfl)) dX12_act_103 ⟨Nat.le_of_ble_eq_true rfl, Nat.le_of_ble_eq_true rfl⟩) hS hA hP hD (fun u11 H locs hw11 hP hD hS => ?_)
              obtain ⟨i11, q11, c11, d11⟩ := u11
              have hw11 : True ∧ mInv i11 c11 ∧ (∀ k, k ∉ ([40, 41, 42] : List Nat) → i11 k = i10 k) ∧ (∀ k, k ∉ ([43, 44] : List Nat) → c11 k = c10 k) ∧ (RQ (c11 44) (c10 49) (nF (i10 5).toInt (c10 23) (c10 24)) (i10 22).toInt (i10 5).toInt) := hw11
              obtain ⟨hw11, hI, hei11, hec11, hxp11_0⟩ := hw11
              have hxp11_0 : RQ (c11 44) (c10 49) (nF (i 5).toInt (c 23) (c 24)) (i 22).toInt (i 5).toInt := by have h9 := hxp11_0; rw [show c10 23 = c 23 from hfc 23 (by decide), show c10 24 = c 24 from hfc 24 (by decide), show i10 5 = i 5 from hfi 5 (by decide), show i10 22 = i 22 from hfi 22 (by decide)] at h9; exact h9
              have hfi : ∀ k, k ∉ ([40, 41, 42] : List Nat) → i11 k = i k := fr_z hfi hei11 (by decide) (by decide)
              have hfc : ∀ k, k ∉ ([43, 44, 45, 46, 47, 48, 49] : List Nat) → c11 k = c k := fr_z hfc hec11 (by decide) (by decide)
              have hP : va_P D vwCl (mW o a t i11 q11 c11 d11) H := hP
              have hD : va_D A (mW o a t i11 q11 c11 d11) := hD
              have hs_C : Cc (c 3) (c 6) (c11 47) (c11 48) (c11 49) (i 5).toInt := by rw [show c11 47 = c10 47 from hec11 47 (by decide), show c11 48 = c10 48 from hec11 48 (by decide), show c11 49 = c10 49 from hec11 49 (by decide)]; exact hs_C
              have hs_R : RQ (c11 44) (c11 49) (nF (i 5).toInt (c 23) (c 24)) (i 22).toInt (i 5).toInt := by rw [show c11 49 = c10 49 from hec11 49 (by decide)]; exact hxp11_0
              refine lv_aload_n hx hb dX12_act_106 rfl (lv_at hl 0 rfl) ?_
              refine lv_iload_n hx hb dX12_act_107 rfl (lv_at hl 1 rfl) ?_
              refine lv_iload_n hx hb dX12_act_108 rfl (lv_at hl 2 rfl) ?_
              refine lv_iload_n hx hb dX12_act_109 rfl (lv_at hl 3 rfl) ?_
              have rb5_i11 : 0 ≤ (i11 5).toInt ∧ (i11 5).toInt ≤ 30 := hI.1 5
              have re5_i11 : (i11 5).toInt = (i 5).toInt := congrArg Int32.toInt (hfi 5 (by decide))
              have rb8_i11 : 0 ≤ (i11 8).toInt ∧ (i11 8).toInt ≤ 200 := hI.1 8
              have re8_i11 : (i11 8).toInt = (i 8).toInt := congrArg Int32.toInt (hfi 8 (by decide))
              have rb22_i11 : (i11 22).toInt = -9 ∨ (0 ≤ (i11 22).toInt ∧ (i11 22).toInt ≤ 29) := hI.1 22
              have re22_i11 : (i11 22).toInt = (i 22).toInt := congrArg Int32.toInt (hfi 22 (by decide))
              refine al_calli (va_runV (As := [.int v1, .int w1, .int w2]) (rest := []) ⟨hx, hb, hml, hown, hts⟩ (s_X12_whyNot l D H.size o a t i11 q11 c11 d11 v1 w1 w2 hI (show 0 ≤ v1.toInt ∧ v1.toInt ≤ 12 from by omega) (show v1.toInt = 0 → 0 ≤ w1.toInt ∧ w1.toInt ≤ 9 from by omega) (show 1 ≤ v1.toInt ∧ v1.toInt ≤ 10 → 0 ≤ w1.toInt ∧ w1.toInt < ((i11 5) : Int32).toInt from by omega) (show v1.toInt = 3 ∨ v1.toInt = 4 ∨ v1.toInt = 7 ∨ v1.toInt = 8 → 0 ≤ w2.toInt ∧ w2.toInt < ((i11 5) : Int32).toInt from by omega) (by rw [show c11 3 = c 3 from hfc 3 (by decide), show c11 6 = c 6 from hfc 6 (by decide), show c11 23 = c 23 from hfc 23 (by decide), show c11 24 = c 24 from hfc 24 (by decide), show i11 5 = i 5 from hfi 5 (by decide), show i11 22 = i 22 from hfi 22 (by decide)]; exact hs_T) (by rw [show c11 3 = c 3 from hfc 3 (by decide), show c11 6 = c 6 from hfc 6 (by decide), show i11 5 = i 5 from hfi 5 (by decide)]; exact hs_C) (by rw [show c11 9 = c 9 from hfc 9 (by decide), show c11 10 = c 10 from hfc 10 (by decide), show c11 11 = c 11 from hfc 11 (by decide), show c11 13 = c 13 from hfc 13 (by decide), show c11 23 = c 23 from hfc 23 (by decide), show c11 24 = c 24 from hfc 24 (by decide), show i11 5 = i 5 from hfi 5 (by decide), show i11 8 = i 8 from hfi 8 (by decide), show i11 22 = i 22 from hfi 22 (by decide)]; exact hs_G)) (cwV 3 hts gm_X12_act_X12_whyNot rfl rfl rfl (by decide +kernel) ⟨Nat.le_of_ble_eq_true rfl, Nat.le_of_ble_eq_true rfl⟩) (pB_V hK hP hD (ci := 12) (q0 := 0) rfl rfl) rfl rfl hl.1 rfl (lv_room (Nat.le_of_ble_eq_true rfl)) dX12_act_110 ⟨Nat.le_of_ble_eq_true rfl, Nat.le_of_ble_eq_true rfl⟩) hS hA hP hD (fun r12 u12 H locs hw12 hP hD hS => ?_)
              obtain ⟨i12, q12, c12, d12⟩ := u12
              have hw12 : ((0 ≤ r12.toInt ∧ r12.toInt ≤ 21) ∧ (Im (r12.toInt = 0) (AC (c11 3) (c11 6) (c11 9) (c11 10) (c11 11) (c11 12) (c11 13) (c11 23) (c11 24) (c11 44) (i11 8).toInt (i11 5).toInt (i11 22).toInt v1.toInt w1.toInt w2.toInt))) ∧ mInv i12 c12 ∧ (∀ k, k ∉ ([16, 17, 18, 19, 35, 36] : List Nat) → i12 k = i11 k) ∧ (∀ k, k ∉ ([34, 38, 39] : List Nat) → c12 k = c11 k) := hw12
              obtain ⟨hw12, hI, hei12, hec12⟩ := hw12
              obtain ⟨hw12, hr12_0⟩ := hw12
              have hr12_0 : Im (r12.toInt = 0) (AC (c 3) (c 6) (c 9) (c 10) (c 11) (c 12) (c 13) (c 23) (c 24) (c11 44) (i 8).toInt (i 5).toInt (i 22).toInt v1.toInt w1.toInt w2.toInt) := by have h9 := hr12_0; rw [show c11 3 = c 3 from hfc 3 (by decide), show c11 6 = c 6 from hfc 6 (by decide), show c11 9 = c 9 from hfc 9 (by decide), show c11 10 = c 10 from hfc 10 (by decide), show c11 11 = c 11 from hfc 11 (by decide), show c11 12 = c 12 from hfc 12 (by decide), show c11 13 = c 13 from hfc 13 (by decide), show c11 23 = c 23 from hfc 23 (by decide), show c11 24 = c 24 from hfc 24 (by decide), show i11 5 = i 5 from hfi 5 (by decide), show i11 8 = i 8 from hfi 8 (by decide), show i11 22 = i 22 from hfi 22 (by decide)] at h9; exact h9
              have hfi : ∀ k, k ∉ ([16, 17, 18, 19, 35, 36, 40, 41, 42] : List Nat) → i12 k = i k := fr_z hfi hei12 (by decide) (by decide)
              have hfc : ∀ k, k ∉ ([34, 38, 39, 43, 44, 45, 46, 47, 48, 49] : List Nat) → c12 k = c k := fr_z hfc hec12 (by decide) (by decide)
              have hP : va_P D vwCl (mW o a t i12 q12 c12 d12) H := hP
              have hD : va_D A (mW o a t i12 q12 c12 d12) := hD
              have hs_C : Cc (c 3) (c 6) (c12 47) (c12 48) (c12 49) (i 5).toInt := by rw [show c12 47 = c11 47 from hec12 47 (by decide), show c12 48 = c11 48 from hec12 48 (by decide), show c12 49 = c11 49 from hec12 49 (by decide)]; exact hs_C
              have hs_R : RQ (c12 44) (c12 49) (nF (i 5).toInt (c 23) (c 24)) (i 22).toInt (i 5).toInt := by rw [show c12 44 = c11 44 from hec12 44 (by decide), show c12 49 = c11 49 from hec12 49 (by decide)]; exact hs_R
              refine lv_istore (lv' := [(4, .int r12), (0, .ref o), (1, .int v1), (2, .int w1), (3, .int w2)]) hx hb dX12_act_113 hl (by decide) rfl (fun ls hl => ?_)
              refine lv_iload hx hb dX12_act_115 (lv_at hl 0 rfl) ?_
              refine lv_if_le (tgt := 123) hx hb dX12_act_117 (by decide) (fun c13 => ?_) (fun c13 => ?_)
              · have f13 := (ti_le (a := r12.toInt) (b := 0) rfl (by decide)).mp c13
                have rb27_i12 : 0 ≤ (i12 27).toInt ∧ (i12 27).toInt ≤ 100 := hI.1 27
                have re27_i12 : (i12 27).toInt = (i 27).toInt := congrArg Int32.toInt (hfi 27 (by decide))
                have hs_A : AC (c 3) (c 6) (c 9) (c 10) (c 11) (c 12) (c 13) (c 23) (c 24) (c12 44) (i 8).toInt (i 5).toInt (i 22).toInt v1.toInt w1.toInt w2.toInt := by rw [show c12 44 = c11 44 from hec12 44 (by decide)]; exact hr12_0 (by omega)
                refine lv_iconst (v := 0) hx hb dX12_act_123 (by decide) ?_
                refine lv_istore (lv' := [(5, .int 0), (4, .int r12), (0, .ref o), (1, .int v1), (2, .int w1), (3, .int w2)]) hx hb dX12_act_124 hl (by decide) rfl (fun ls hl => ?_)
                have lp14 : ∀ (fu : Nat) (i14 : Nat → Int32) (q14 : Int64) (c14 : Nat → Nat → Int32) (d14 : Nat → Nat → Int64) (y14_5 : Int32), mInv i14 c14 → (∀ k, k ∉ ([16, 17, 18, 19, 35, 36, 40, 41, 42] : List Nat) → i14 k = i k) → (∀ k, k ∉ ([29, 30, 31, 32, 34, 38, 39, 43, 44, 45, 46, 47, 48, 49] : List Nat) → c14 k = c k) → (Cc (c 3) (c 6) (c14 47) (c14 48) (c14 49) (i 5).toInt) → (RQ (c14 44) (c14 49) (nF (i 5).toInt (c 23) (c 24)) (i 22).toInt (i 5).toInt) → (AC (c 3) (c 6) (c 9) (c 10) (c 11) (c 12) (c 13) (c 23) (c 24) (c14 44) (i 8).toInt (i 5).toInt (i 22).toInt v1.toInt w1.toInt w2.toInt) → (0 ≤ y14_5.toInt ∧ y14_5.toInt ≤ 30) → (RW (c14 29) (c14 30) (c 29) (c 30) (c 23) (c 24) (i 27).toInt.toNat y14_5.toInt) → (((i14 27) : Int32).toInt = (i 27).toInt) → (30 - y14_5.toInt).toNat < fu → ∀ (H : Heap) (locs : List Loc) (ls : Array Slot), va_P D vwCl (mW o a t i14 q14 c14 d14) H → va_D A (mW o a t i14 q14 c14 d14) → va_S A s.heap H locs → lv_has ls 6 [(5, .int y14_5), (4, .int r12), (0, .ref o), (1, .int v1), (2, .int w1), (3, .int w2)] → W p l e (headSpec wm_X12_act ({ frames := 5, cells := 0, slots := 0, locals := 116 })).room s m ([.ref o, .int v1, .int w1, .int w2] : List Value).toArray below meth cd H locs 0 0 (MQ below (va_Qi (fun (r : Int32) (u : MS) => True ∧ mInv u.1 u.2.2.1 ∧ (∀ k, k ∉ ([16, 17, 18, 19, 27, 35, 36, 40, 41, 42] : List Nat) → u.1 k = i k) ∧ (∀ k, k ∉ ([23, 24, 25, 26, 28, 29, 30, 31, 32, 34, 38, 39, 43, 44, 45, 46, 47, 48, 49] : List Nat) → u.2.2.1 k = c k) ∧ (SJ (u.2.2.1 3) (u.2.2.1 6) (u.2.2.1 9) (u.2.2.1 10) (u.2.2.1 11) (u.2.2.1 13) (u.1 2).toInt (u.1 5).toInt (u.1 8).toInt) ∧ (TJ (u.2.2.1 3) (u.2.2.1 6) (u.2.2.1 23) (u.2.2.1 24) (u.2.2.1 29) (u.2.2.1 30) (u.1 5).toInt (u.1 22).toInt (u.1 27).toInt)) (oC D A (fun u : MS => mW o a t u.1 u.2.1 u.2.2.1 u.2.2.2) (fun _ => [])) A) ([.ref o, .int v1, .int w1, .int w2] : List Value).toArray s 0 0 A) (F0 m 126 ls []) := by
                  intro fu
                  induction fu with
                  | zero => intro i14 q14 c14 d14 y14_5 hI hfi hfc hs_C hs_R hs_A hy14_5 hz14_0 hz14_1 hm; exact absurd hm (Nat.not_lt_zero _)
                  | succ fu ih =>
                    intro i14 q14 c14 d14 y14_5 hI hfi hfc hs_C hs_R hs_A hy14_5 hz14_0 hz14_1 hm H locs ls hP hD hS hl
                    have ih14 := ih
                    refine lv_iload hx hb dX12_act_126 (lv_at hl 0 rfl) ?_
                    refine lv_bipush (v := 30) hx hb dX12_act_128 (by decide) ?_
                    refine lv_icmp_ge (tgt := 227) hx hb dX12_act_130 (by decide) (fun c15 => ?_) (fun c15 => ?_)
                    · have f15 := (ti_le (a := 30) (b := y14_5.toInt) (by decide) rfl).mp c15
                      have hRW : RW (c14 29) (c14 30) (c 29) (c 30) (c 23) (c 24) (i 27).toInt.toNat 30 := by have h9 := hz14_0; rw [show y14_5.toInt = 30 by omega] at h9; exact h9
                      refine lv_aload_n hx hb dX12_act_227 rfl (lv_at hl 2 rfl) ?_
                      refine mget_28 hx hb hts (fun _ h => List.mem_cons_of_mem _ (List.mem_append_right _ h)) hown hK hP (hts (.fieldLink RX12 62 "TalePlayModel" "turnRow" "[I") (by decide +kernel)) dX12_act_228 ?_
                      refine lv_iconst (v := 3) hx hb dX12_act_231 (by decide) ?_
                      refine lv_aload_n hx hb dX12_act_232 rfl (lv_at hl 2 rfl) ?_
                      refine mget_27 (v := (i14 27)) rfl hx hb hts (fun _ h => List.mem_cons_of_mem _ (List.mem_append_right _ h)) hown hK hP (hts (.fieldLink RX12 291 "TalePlayModel" "turns" "I") (by decide +kernel)) dX12_act_233 ?_
                      have rb27_i14 : 0 ≤ (i14 27).toInt ∧ (i14 27).toInt ≤ 100 := hI.1 27
                      have re27_i14 : (i14 27).toInt = (i 27).toInt := congrArg Int32.toInt (hfi 27 (by decide))
                      refine lv_imul hx hb dX12_act_236 ?_
                      refine lv_topi (fun x16 ex16 => ?_)
                      have tx16 := ti_mul (a := 3) (b := (i14 27).toInt) ex16 (by decide) rfl (by omega) (by omega)
                      refine lv_iload_n hx hb dX12_act_237 rfl (lv_at hl 3 rfl) ?_
                      refine mst_28 hx hb hK hP hD hS (vp_in_iff.mpr (by have h9 : x16.toInt = (3 * (i14 27).toInt) := tx16; omega)) dX12_act_238 (fun H locs hP hD hS => ?_)
                      have hI := mInv_c hI (k := 28) (j := (x16 : Int32).toNatClampNeg) (x := v1) (show 0 ≤ (v1 : Int32).toInt ∧ (v1 : Int32).toInt ≤ 29 from by omega)
                      have hfc : ∀ k, k ∉ ([28, 29, 30, 31, 32, 34, 38, 39, 43, 44, 45, 46, 47, 48, 49] : List Nat) → (updA c14 28 (x16 : Int32).toNatClampNeg v1) k = c k := fr_cz hfc (by decide) (by decide)
                      refine lv_aload_n hx hb dX12_act_239 rfl (lv_at hl 2 rfl) ?_
                      refine mget_28 hx hb hts (fun _ h => List.mem_cons_of_mem _ (List.mem_append_right _ h)) hown hK hP (hts (.fieldLink RX12 62 "TalePlayModel" "turnRow" "[I") (by decide +kernel)) dX12_act_240 ?_
                      refine lv_iconst (v := 3) hx hb dX12_act_243 (by decide) ?_
                      refine lv_aload_n hx hb dX12_act_244 rfl (lv_at hl 2 rfl) ?_
                      refine mget_27 (v := (i14 27)) rfl hx hb hts (fun _ h => List.mem_cons_of_mem _ (List.mem_append_right _ h)) hown hK hP (hts (.fieldLink RX12 291 "TalePlayModel" "turns" "I") (by decide +kernel)) dX12_act_245 ?_
                      refine lv_imul hx hb dX12_act_248 ?_
                      refine lv_topi (fun x17 ex17 => ?_)
                      have tx17 := ti_mul (a := 3) (b := (i14 27).toInt) ex17 (by decide) rfl (by omega) (by omega)
                      refine lv_iconst (v := 1) hx hb dX12_act_249 (by decide) ?_
                      refine lv_iadd hx hb dX12_act_250 ?_
                      refine lv_topi (fun x18 ex18 => ?_)
                      have tx18 := ti_add (a := (3 * (i14 27).toInt)) (b := 1) ex18 tx17 (by decide) (by omega) (by omega)
                      refine lv_iload_n hx hb dX12_act_251 rfl (lv_at hl 3 rfl) ?_
                      refine lv_bipush (v := 11) hx hb dX12_act_252 (by decide) ?_
                      have jn19 : ∀ (z19_0 : Int32), (0 ≤ z19_0.toInt ∧ z19_0.toInt ≤ 29) → ∀ (H : Heap) (locs : List Loc) (ls : Array Slot), va_P D vwCl (mW o a t i14 q14 (updA c14 28 (x16 : Int32).toNatClampNeg v1) d14) H → va_D A (mW o a t i14 q14 (updA c14 28 (x16 : Int32).toNatClampNeg v1) d14) → va_S A s.heap H locs → lv_has ls 6 [(5, .int y14_5), (4, .int r12), (0, .ref o), (1, .int v1), (2, .int w1), (3, .int w2)] → W p l e (headSpec wm_X12_act ({ frames := 5, cells := 0, slots := 0, locals := 116 })).room s m ([.ref o, .int v1, .int w1, .int w2] : List Value).toArray below meth cd H locs 0 0 (MQ below (va_Qi (fun (r : Int32) (u : MS) => True ∧ mInv u.1 u.2.2.1 ∧ (∀ k, k ∉ ([16, 17, 18, 19, 27, 35, 36, 40, 41, 42] : List Nat) → u.1 k = i k) ∧ (∀ k, k ∉ ([23, 24, 25, 26, 28, 29, 30, 31, 32, 34, 38, 39, 43, 44, 45, 46, 47, 48, 49] : List Nat) → u.2.2.1 k = c k) ∧ (SJ (u.2.2.1 3) (u.2.2.1 6) (u.2.2.1 9) (u.2.2.1 10) (u.2.2.1 11) (u.2.2.1 13) (u.1 2).toInt (u.1 5).toInt (u.1 8).toInt) ∧ (TJ (u.2.2.1 3) (u.2.2.1 6) (u.2.2.1 23) (u.2.2.1 24) (u.2.2.1 29) (u.2.2.1 30) (u.1 5).toInt (u.1 22).toInt (u.1 27).toInt)) (oC D A (fun u : MS => mW o a t u.1 u.2.1 u.2.2.1 u.2.2.2) (fun _ => [])) A) ([.ref o, .int v1, .int w1, .int w2] : List Value).toArray s 0 0 A) (F0 m 262 ls [.int z19_0, .int x18, .ref (a 28)]) := by
                        intro z19_0 hs19_0 H locs ls hP hD hS hl
                        refine mst_28 hx hb hK hP hD hS (vp_in_iff.mpr (by have h9 : x18.toInt = ((3 * (i14 27).toInt) + 1) := tx18; omega)) dX12_act_262 (fun H locs hP hD hS => ?_)
                        have hI := mInv_c hI (k := 28) (j := (x18 : Int32).toNatClampNeg) (x := z19_0) (show 0 ≤ (z19_0 : Int32).toInt ∧ (z19_0 : Int32).toInt ≤ 29 from by omega)
                        have hfc := fr_c hfc (k := 28) (j := (x18 : Int32).toNatClampNeg) (x := z19_0) (by decide)
                        refine lv_aload_n hx hb dX12_act_263 rfl (lv_at hl 2 rfl) ?_
                        refine mget_28 hx hb hts (fun _ h => List.mem_cons_of_mem _ (List.mem_append_right _ h)) hown hK hP (hts (.fieldLink RX12 62 "TalePlayModel" "turnRow" "[I") (by decide +kernel)) dX12_act_264 ?_
                        refine lv_iconst (v := 3) hx hb dX12_act_267 (by decide) ?_
                        refine lv_aload_n hx hb dX12_act_268 rfl (lv_at hl 2 rfl) ?_
                        refine mget_27 (v := (i14 27)) rfl hx hb hts (fun _ h => List.mem_cons_of_mem _ (List.mem_append_right _ h)) hown hK hP (hts (.fieldLink RX12 291 "TalePlayModel" "turns" "I") (by decide +kernel)) dX12_act_269 ?_
                        refine lv_imul hx hb dX12_act_272 ?_
                        refine lv_topi (fun x20 ex20 => ?_)
                        have tx20 := ti_mul (a := 3) (b := (i14 27).toInt) ex20 (by decide) rfl (by omega) (by omega)
                        refine lv_iconst (v := 2) hx hb dX12_act_273 (by decide) ?_
                        refine lv_iadd hx hb dX12_act_274 ?_
                        refine lv_topi (fun x21 ex21 => ?_)
                        have tx21 := ti_add (a := (3 * (i14 27).toInt)) (b := 2) ex21 tx20 (by decide) (by omega) (by omega)
                        refine lv_iload_n hx hb dX12_act_275 rfl (lv_at hl 3 rfl) ?_
                        have hPc := hP.sub (ws' := []) [] rfl
                        have hKc := hK.sub (tys' := []) [] rfl
                        refine ro_calli (va_runS (As := [.int v1]) (rest := [.int x21, .ref (a 28)]) ⟨hx, hb, hml, hown, hts⟩ (c_X12_hasSecond l D H.size v1) (va_cwS 1 hts gm_X12_act_X12_hasSecond rfl rfl rfl (by decide +kernel) ⟨Nat.le_of_ble_eq_true rfl, Nat.le_of_ble_eq_true rfl⟩) (pA_S hKc hPc) rfl rfl hl.1 rfl (lv_room (Nat.le_of_ble_eq_true rfl)) dX12_act_276 ⟨Nat.le_of_ble_eq_true rfl, Nat.le_of_ble_eq_true rfl⟩) hS hA hP (fun r22 u22 H locs hw22 hP hS => ?_)
                        have hw22 : r22 = if (v1.toInt = 3 ∨ v1.toInt = 4 ∨ v1.toInt = 7 ∨ v1.toInt = 8) then 1 else 0 := hw22
                        have jn23 : ∀ (z23_0 : Int32), (0 ≤ z23_0.toInt ∧ z23_0.toInt ≤ 29) → ∀ (H : Heap) (locs : List Loc) (ls : Array Slot), va_P D vwCl (mW o a t i14 q14 (updA (updA c14 28 (x16 : Int32).toNatClampNeg v1) 28 (x18 : Int32).toNatClampNeg z19_0) d14) H → va_D A (mW o a t i14 q14 (updA (updA c14 28 (x16 : Int32).toNatClampNeg v1) 28 (x18 : Int32).toNatClampNeg z19_0) d14) → va_S A s.heap H locs → lv_has ls 6 [(5, .int y14_5), (4, .int r12), (0, .ref o), (1, .int v1), (2, .int w1), (3, .int w2)] → W p l e (headSpec wm_X12_act ({ frames := 5, cells := 0, slots := 0, locals := 116 })).room s m ([.ref o, .int v1, .int w1, .int w2] : List Value).toArray below meth cd H locs 0 0 (MQ below (va_Qi (fun (r : Int32) (u : MS) => True ∧ mInv u.1 u.2.2.1 ∧ (∀ k, k ∉ ([16, 17, 18, 19, 27, 35, 36, 40, 41, 42] : List Nat) → u.1 k = i k) ∧ (∀ k, k ∉ ([23, 24, 25, 26, 28, 29, 30, 31, 32, 34, 38, 39, 43, 44, 45, 46, 47, 48, 49] : List Nat) → u.2.2.1 k = c k) ∧ (SJ (u.2.2.1 3) (u.2.2.1 6) (u.2.2.1 9) (u.2.2.1 10) (u.2.2.1 11) (u.2.2.1 13) (u.1 2).toInt (u.1 5).toInt (u.1 8).toInt) ∧ (TJ (u.2.2.1 3) (u.2.2.1 6) (u.2.2.1 23) (u.2.2.1 24) (u.2.2.1 29) (u.2.2.1 30) (u.1 5).toInt (u.1 22).toInt (u.1 27).toInt)) (oC D A (fun u : MS => mW o a t u.1 u.2.1 u.2.2.1 u.2.2.2) (fun _ => [])) A) ([.ref o, .int v1, .int w1, .int w2] : List Value).toArray s 0 0 A) (F0 m 287 ls [.int z23_0, .int x21, .ref (a 28)]) := by
                          intro z23_0 hs23_0 H locs ls hP hD hS hl
                          refine mst_28 hx hb hK hP hD hS (vp_in_iff.mpr (by have h9 : x21.toInt = ((3 * (i14 27).toInt) + 2) := tx21; omega)) dX12_act_287 (fun H locs hP hD hS => ?_)
                          have hI := mInv_c hI (k := 28) (j := (x21 : Int32).toNatClampNeg) (x := z23_0) (show 0 ≤ (z23_0 : Int32).toInt ∧ (z23_0 : Int32).toInt ≤ 29 from by omega)
                          have hfc := fr_c hfc (k := 28) (j := (x21 : Int32).toNatClampNeg) (x := z23_0) (by decide)
                          refine lv_aload_n hx hb dX12_act_288 rfl (lv_at hl 2 rfl) ?_
                          refine lv_dup hx hb dX12_act_289 rfl ?_
                          refine mget_27 (v := (i14 27)) rfl hx hb hts (fun _ h => List.mem_cons_of_mem _ (List.mem_append_right _ h)) hown hK hP (hts (.fieldLink RX12 291 "TalePlayModel" "turns" "I") (by decide +kernel)) dX12_act_290 ?_
                          refine lv_iconst (v := 1) hx hb dX12_act_293 (by decide) ?_
                          refine lv_iadd hx hb dX12_act_294 ?_
                          refine lv_topi (fun x24 ex24 => ?_)
                          have tx24 := ti_add (a := (i14 27).toInt) (b := 1) ex24 rfl (by decide) (by omega) (by omega)
                          refine mput_27 hx hb hts (fun _ h => List.mem_cons_of_mem _ (List.mem_append_right _ h)) hown hK hP hD hS (hts (.fieldLink RX12 291 "TalePlayModel" "turns" "I") (by decide +kernel)) rfl rfl dX12_act_295 (fun H locs hP hD hS => ?_)
                          have hI := mInv_i hI (k := 27) (v := x24) (show 0 ≤ (x24 : Int32).toInt ∧ (x24 : Int32).toInt ≤ 100 from by have h9 : x24.toInt = ((i14 27).toInt + 1) := tx24; omega)
                          have hfi : ∀ k, k ∉ ([16, 17, 18, 19, 27, 35, 36, 40, 41, 42] : List Nat) → (upd i14 27 x24) k = i k := fr_iz hfi (by decide) (by decide)
                          refine lv_aload_n hx hb dX12_act_298 rfl (lv_at hl 2 rfl) ?_
                          refine lv_iload_n hx hb dX12_act_299 rfl (lv_at hl 3 rfl) ?_
                          refine lv_iload_n hx hb dX12_act_300 rfl (lv_at hl 4 rfl) ?_
                          refine lv_iload_n hx hb dX12_act_301 rfl (lv_at hl 5 rfl) ?_
                          have rb2_i14 : 6 ≤ (i14 2).toInt ∧ (i14 2).toInt ≤ 24 := hI.1 2
                          have re2_i14 : (i14 2).toInt = (i 2).toInt := congrArg Int32.toInt (hfi 2 (by decide))
                          have rb5_i14 : 0 ≤ (i14 5).toInt ∧ (i14 5).toInt ≤ 30 := hI.1 5
                          have re5_i14 : (i14 5).toInt = (i 5).toInt := congrArg Int32.toInt (hfi 5 (by decide))
                          have rb8_i14 : 0 ≤ (i14 8).toInt ∧ (i14 8).toInt ≤ 200 := hI.1 8
                          have re8_i14 : (i14 8).toInt = (i 8).toInt := congrArg Int32.toInt (hfi 8 (by decide))
                          have rb22_i14 : (i14 22).toInt = -9 ∨ (0 ≤ (i14 22).toInt ∧ (i14 22).toInt ≤ 29) := hI.1 22
                          have re22_i14 : (i14 22).toInt = (i 22).toInt := congrArg Int32.toInt (hfi 22 (by decide))
                          refine al_callv (va_runV (As := [.int v1, .int w1, .int w2]) (rest := []) ⟨hx, hb, hml, hown, hts⟩ (s_X12_acts l D H.size o a t (upd i14 27 x24) q14 (updA (updA (updA c14 28 (x16 : Int32).toNatClampNeg v1) 28 (x18 : Int32).toNatClampNeg z19_0) 28 (x21 : Int32).toNatClampNeg z23_0) d14 v1 w1 w2 hI (show 0 ≤ v1.toInt ∧ v1.toInt ≤ 12 from by have h60 : x24.toInt = ((i14 27).toInt + 1) := tx24; omega) (show v1.toInt = 0 → 0 ≤ w1.toInt ∧ w1.toInt ≤ 9 from by have h60 : x24.toInt = ((i14 27).toInt + 1) := tx24; omega) (show 1 ≤ v1.toInt ∧ v1.toInt ≤ 10 → 0 ≤ w1.toInt ∧ w1.toInt < ((i14 5) : Int32).toInt from by have h60 : x24.toInt = ((i14 27).toInt + 1) := tx24; omega) (show v1.toInt = 3 ∨ v1.toInt = 4 ∨ v1.toInt = 7 ∨ v1.toInt = 8 → 0 ≤ w2.toInt ∧ w2.toInt < ((i14 5) : Int32).toInt from by have h60 : x24.toInt = ((i14 27).toInt + 1) := tx24; omega) (by rw [show (updA (updA (updA c14 28 (x16 : Int32).toNatClampNeg v1) 28 (x18 : Int32).toNatClampNeg z19_0) 28 (x21 : Int32).toNatClampNeg z23_0) 3 = c 3 from hfc 3 (by decide), show (updA (updA (updA c14 28 (x16 : Int32).toNatClampNeg v1) 28 (x18 : Int32).toNatClampNeg z19_0) 28 (x21 : Int32).toNatClampNeg z23_0) 6 = c 6 from hfc 6 (by decide), show (updA (updA (updA c14 28 (x16 : Int32).toNatClampNeg v1) 28 (x18 : Int32).toNatClampNeg z19_0) 28 (x21 : Int32).toNatClampNeg z23_0) 23 = c 23 from hfc 23 (by decide), show (updA (updA (updA c14 28 (x16 : Int32).toNatClampNeg v1) 28 (x18 : Int32).toNatClampNeg z19_0) 28 (x21 : Int32).toNatClampNeg z23_0) 24 = c 24 from hfc 24 (by decide), show (upd i14 27 x24) 5 = i 5 from hfi 5 (by decide), show (upd i14 27 x24) 22 = i 22 from hfi 22 (by decide)]; exact hs_T) (by rw [show (updA (updA (updA c14 28 (x16 : Int32).toNatClampNeg v1) 28 (x18 : Int32).toNatClampNeg z19_0) 28 (x21 : Int32).toNatClampNeg z23_0) 3 = c 3 from hfc 3 (by decide), show (updA (updA (updA c14 28 (x16 : Int32).toNatClampNeg v1) 28 (x18 : Int32).toNatClampNeg z19_0) 28 (x21 : Int32).toNatClampNeg z23_0) 6 = c 6 from hfc 6 (by decide), show (upd i14 27 x24) 5 = i 5 from hfi 5 (by decide)]; exact hs_C) (by rw [show (updA (updA (updA c14 28 (x16 : Int32).toNatClampNeg v1) 28 (x18 : Int32).toNatClampNeg z19_0) 28 (x21 : Int32).toNatClampNeg z23_0) 3 = c 3 from hfc 3 (by decide), show (updA (updA (updA c14 28 (x16 : Int32).toNatClampNeg v1) 28 (x18 : Int32).toNatClampNeg z19_0) 28 (x21 : Int32).toNatClampNeg z23_0) 6 = c 6 from hfc 6 (by decide), show (updA (updA (updA c14 28 (x16 : Int32).toNatClampNeg v1) 28 (x18 : Int32).toNatClampNeg z19_0) 28 (x21 : Int32).toNatClampNeg z23_0) 9 = c 9 from hfc 9 (by decide), show (updA (updA (updA c14 28 (x16 : Int32).toNatClampNeg v1) 28 (x18 : Int32).toNatClampNeg z19_0) 28 (x21 : Int32).toNatClampNeg z23_0) 10 = c 10 from hfc 10 (by decide), show (updA (updA (updA c14 28 (x16 : Int32).toNatClampNeg v1) 28 (x18 : Int32).toNatClampNeg z19_0) 28 (x21 : Int32).toNatClampNeg z23_0) 11 = c 11 from hfc 11 (by decide), show (updA (updA (updA c14 28 (x16 : Int32).toNatClampNeg v1) 28 (x18 : Int32).toNatClampNeg z19_0) 28 (x21 : Int32).toNatClampNeg z23_0) 13 = c 13 from hfc 13 (by decide), show (upd i14 27 x24) 2 = i 2 from hfi 2 (by decide), show (upd i14 27 x24) 5 = i 5 from hfi 5 (by decide), show (upd i14 27 x24) 8 = i 8 from hfi 8 (by decide)]; exact hs_S) (by rw [show (updA (updA (updA c14 28 (x16 : Int32).toNatClampNeg v1) 28 (x18 : Int32).toNatClampNeg z19_0) 28 (x21 : Int32).toNatClampNeg z23_0) 3 = c 3 from hfc 3 (by decide), show (updA (updA (updA c14 28 (x16 : Int32).toNatClampNeg v1) 28 (x18 : Int32).toNatClampNeg z19_0) 28 (x21 : Int32).toNatClampNeg z23_0) 6 = c 6 from hfc 6 (by decide), show (upd i14 27 x24) 22 = i 22 from hfi 22 (by decide)]; exact hs_P) (by rw [show (updA (updA (updA c14 28 (x16 : Int32).toNatClampNeg v1) 28 (x18 : Int32).toNatClampNeg z19_0) 28 (x21 : Int32).toNatClampNeg z23_0) 23 = c 23 from hfc 23 (by decide), show (updA (updA (updA c14 28 (x16 : Int32).toNatClampNeg v1) 28 (x18 : Int32).toNatClampNeg z19_0) 28 (x21 : Int32).toNatClampNeg z23_0) 24 = c 24 from hfc 24 (by decide), show (upd i14 27 x24) 5 = i 5 from hfi 5 (by decide), show (upd i14 27 x24) 22 = i 22 from hfi 22 (by decide)]; exact hs_R) (by rw [show (updA (updA (updA c14 28 (x16 : Int32).toNatClampNeg v1) 28 (x18 : Int32).toNatClampNeg z19_0) 28 (x21 : Int32).toNatClampNeg z23_0) 3 = c 3 from hfc 3 (by decide), show (updA (updA (updA c14 28 (x16 : Int32).toNatClampNeg v1) 28 (x18 : Int32).toNatClampNeg z19_0) 28 (x21 : Int32).toNatClampNeg z23_0) 6 = c 6 from hfc 6 (by decide), show (updA (updA (updA c14 28 (x16 : Int32).toNatClampNeg v1) 28 (x18 : Int32).toNatClampNeg z19_0) 28 (x21 : Int32).toNatClampNeg z23_0) 9 = c 9 from hfc 9 (by decide), show (updA (updA (updA c14 28 (x16 : Int32).toNatClampNeg v1) 28 (x18 : Int32).toNatClampNeg z19_0) 28 (x21 : Int32).toNatClampNeg z23_0) 10 = c 10 from hfc 10 (by decide), show (updA (updA (updA c14 28 (x16 : Int32).toNatClampNeg v1) 28 (x18 : Int32).toNatClampNeg z19_0) 28 (x21 : Int32).toNatClampNeg z23_0) 11 = c 11 from hfc 11 (by decide), show (updA (updA (updA c14 28 (x16 : Int32).toNatClampNeg v1) 28 (x18 : Int32).toNatClampNeg z19_0) 28 (x21 : Int32).toNatClampNeg z23_0) 12 = c 12 from hfc 12 (by decide), show (updA (updA (updA c14 28 (x16 : Int32).toNatClampNeg v1) 28 (x18 : Int32).toNatClampNeg z19_0) 28 (x21 : Int32).toNatClampNeg z23_0) 13 = c 13 from hfc 13 (by decide), show (updA (updA (updA c14 28 (x16 : Int32).toNatClampNeg v1) 28 (x18 : Int32).toNatClampNeg z19_0) 28 (x21 : Int32).toNatClampNeg z23_0) 23 = c 23 from hfc 23 (by decide), show (updA (updA (updA c14 28 (x16 : Int32).toNatClampNeg v1) 28 (x18 : Int32).toNatClampNeg z19_0) 28 (x21 : Int32).toNatClampNeg z23_0) 24 = c 24 from hfc 24 (by decide), show (upd i14 27 x24) 5 = i 5 from hfi 5 (by decide), show (upd i14 27 x24) 8 = i 8 from hfi 8 (by decide), show (upd i14 27 x24) 22 = i 22 from hfi 22 (by decide)]; exact hs_A)) (cwV 3 hts gm_X12_act_X12_acts rfl rfl rfl (by decide +kernel) ⟨Nat.le_of_ble_eq_true rfl, Nat.le_of_ble_eq_true rfl⟩) (pB_V hK hP hD (ci := 12) (q0 := 0) rfl rfl) rfl rfl hl.1 rfl (lv_room (Nat.le_of_ble_eq_true rfl)) dX12_act_302 ⟨Nat.le_of_ble_eq_true rfl, Nat.le_of_ble_eq_true rfl⟩) hS hA hP hD (fun u25 H locs hw25 hP hD hS => ?_)
                          obtain ⟨i25, q25, c25, d25⟩ := u25
                          have hw25 : True ∧ mInv i25 c25 ∧ (∀ k, k ∉ ([16, 17, 18, 19] : List Nat) → i25 k = (upd i14 27 x24) k) ∧ (∀ k, k ∉ ([23, 24, 25, 26] : List Nat) → c25 k = (updA (updA (updA c14 28 (x16 : Int32).toNatClampNeg v1) 28 (x18 : Int32).toNatClampNeg z19_0) 28 (x21 : Int32).toNatClampNeg z23_0) k) ∧ (TI ((upd i14 27 x24) 5).toInt (fun z => Kd ((updA (updA (updA c14 28 (x16 : Int32).toNatClampNeg v1) 28 (x18 : Int32).toNatClampNeg z19_0) 28 (x21 : Int32).toNatClampNeg z23_0) 3) ((updA (updA (updA c14 28 (x16 : Int32).toNatClampNeg v1) 28 (x18 : Int32).toNatClampNeg z19_0) 28 (x21 : Int32).toNatClampNeg z23_0) 6) z 0) ((upd i14 27 x24) 22).toInt (c25 23) (c25 24)) := hw25
                          obtain ⟨hw25, hI, hei25, hec25, hxp25_0⟩ := hw25
                          have hxp25_0 : TI (i 5).toInt (fun z => Kd (c 3) (c 6) z 0) (i 22).toInt (c25 23) (c25 24) := by have h9 := hxp25_0; rw [show (updA (updA (updA c14 28 (x16 : Int32).toNatClampNeg v1) 28 (x18 : Int32).toNatClampNeg z19_0) 28 (x21 : Int32).toNatClampNeg z23_0) 3 = c 3 from hfc 3 (by decide), show (updA (updA (updA c14 28 (x16 : Int32).toNatClampNeg v1) 28 (x18 : Int32).toNatClampNeg z19_0) 28 (x21 : Int32).toNatClampNeg z23_0) 6 = c 6 from hfc 6 (by decide), show (upd i14 27 x24) 5 = i 5 from hfi 5 (by decide), show (upd i14 27 x24) 22 = i 22 from hfi 22 (by decide)] at h9; exact h9
                          have hfi : ∀ k, k ∉ ([16, 17, 18, 19, 27, 35, 36, 40, 41, 42] : List Nat) → i25 k = i k := fr_z hfi hei25 (by decide) (by decide)
                          have hfc : ∀ k, k ∉ ([23, 24, 25, 26, 28, 29, 30, 31, 32, 34, 38, 39, 43, 44, 45, 46, 47, 48, 49] : List Nat) → c25 k = c k := fr_z hfc hec25 (by decide) (by decide)
                          have hP : va_P D vwCl (mW o a t i25 q25 c25 d25) H := hP
                          have hD : va_D A (mW o a t i25 q25 c25 d25) := hD
                          have hs_C : Cc (c 3) (c 6) (c25 47) (c25 48) (c25 49) (i 5).toInt := by rw [show c25 47 = (updA (updA (updA c14 28 (x16 : Int32).toNatClampNeg v1) 28 (x18 : Int32).toNatClampNeg z19_0) 28 (x21 : Int32).toNatClampNeg z23_0) 47 from hec25 47 (by decide), show c25 48 = (updA (updA (updA c14 28 (x16 : Int32).toNatClampNeg v1) 28 (x18 : Int32).toNatClampNeg z19_0) 28 (x21 : Int32).toNatClampNeg z23_0) 48 from hec25 48 (by decide), show c25 49 = (updA (updA (updA c14 28 (x16 : Int32).toNatClampNeg v1) 28 (x18 : Int32).toNatClampNeg z19_0) 28 (x21 : Int32).toNatClampNeg z23_0) 49 from hec25 49 (by decide)]; exact hs_C
                          have hs_R : RQ (c25 44) (c25 49) (nF (i 5).toInt (c 23) (c 24)) (i 22).toInt (i 5).toInt := by rw [show c25 44 = (updA (updA (updA c14 28 (x16 : Int32).toNatClampNeg v1) 28 (x18 : Int32).toNatClampNeg z19_0) 28 (x21 : Int32).toNatClampNeg z23_0) 44 from hec25 44 (by decide), show c25 49 = (updA (updA (updA c14 28 (x16 : Int32).toNatClampNeg v1) 28 (x18 : Int32).toNatClampNeg z19_0) 28 (x21 : Int32).toNatClampNeg z23_0) 49 from hec25 49 (by decide)]; exact hs_R
                          have hs_A : AC (c 3) (c 6) (c 9) (c 10) (c 11) (c 12) (c 13) (c 23) (c 24) (c25 44) (i 8).toInt (i 5).toInt (i 22).toInt v1.toInt w1.toInt w2.toInt := by rw [show c25 44 = (updA (updA (updA c14 28 (x16 : Int32).toNatClampNeg v1) 28 (x18 : Int32).toNatClampNeg z19_0) 28 (x21 : Int32).toNatClampNeg z23_0) 44 from hec25 44 (by decide)]; exact hs_A
                          refine lv_iconst (v := 0) hx hb dX12_act_305 (by decide) ?_
                          exact rw_iret (i25, q25, c25, d25) hx hb hr hlocks hS (hK.sub (tys' := []) [] rfl) hP hD dX12_act_306 ⟨trivial, hI, fr_w hfi (by decide), fr_w hfc (by decide), (show SJ (c25 3) (c25 6) (c25 9) (c25 10) (c25 11) (c25 13) ((i25 2) : Int32).toInt ((i25 5) : Int32).toInt ((i25 8) : Int32).toInt from by rw [show c25 3 = c 3 from hfc 3 (by decide), show c25 6 = c 6 from hfc 6 (by decide), show c25 9 = c 9 from hfc 9 (by decide), show c25 10 = c 10 from hfc 10 (by decide), show c25 11 = c 11 from hfc 11 (by decide), show c25 13 = c 13 from hfc 13 (by decide), show i25 2 = i 2 from hfi 2 (by decide), show i25 5 = i 5 from hfi 5 (by decide), show i25 8 = i 8 from hfi 8 (by decide)]; exact hs_S), (show TJ (c25 3) (c25 6) (c25 23) (c25 24) (c25 29) (c25 30) ((i25 5) : Int32).toInt ((i25 22) : Int32).toInt ((i25 27) : Int32).toInt from by rw [show c25 3 = c 3 from hfc 3 (by decide), show c25 6 = c 6 from hfc 6 (by decide), show c25 29 = (updA (updA (updA c14 28 (x16 : Int32).toNatClampNeg v1) 28 (x18 : Int32).toNatClampNeg z19_0) 28 (x21 : Int32).toNatClampNeg z23_0) 29 from hec25 29 (by decide), show c25 30 = (updA (updA (updA c14 28 (x16 : Int32).toNatClampNeg v1) 28 (x18 : Int32).toNatClampNeg z19_0) 28 (x21 : Int32).toNatClampNeg z23_0) 30 from hec25 30 (by decide), show i25 5 = i 5 from hfi 5 (by decide), show i25 22 = i 22 from hfi 22 (by decide), show i25 27 = (upd i14 27 x24) 27 from hei25 27 (by decide)]; exact TJ_act (T := i 27) hs_J (by omega) (by omega) (by omega) (show x24.toInt = (i 27).toInt + 1 by have h9 := tx24; omega) hRW hxp25_0)⟩
                        refine lv_if_eq (tgt := 286) hx hb dX12_act_279 (by decide) (fun c26 => ?_) (fun c26 => ?_)
                        · have f26 := fl_f hw22 c26
                          refine lv_iconst (v := 0) hx hb dX12_act_286 (by decide) ?_
                          exact jn23  (0 : Int32) (show 0 ≤ (0 : Int32).toInt ∧ (0 : Int32).toInt ≤ 29 from by have h56 : (0 : Int32).toInt = 0 := (by decide); omega) _ _ _ hP hD hS (lv_sub hl [0, 1, 2, 3, 4, 5] rfl)
                        · have f26 := fl_t hw22 c26
                          refine lv_iload_n hx hb dX12_act_282 rfl (lv_at hl 5 rfl) ?_
                          refine lv_goto (tgt := 287) hx hb dX12_act_283 (by decide) ?_
                          exact jn23  w2 (show 0 ≤ w2.toInt ∧ w2.toInt ≤ 29 from by omega) _ _ _ hP hD hS (lv_sub hl [0, 1, 2, 3, 4, 5] rfl)
                      refine lv_icmp_ge (tgt := 261) hx hb dX12_act_254 (by decide) (fun c27 => ?_) (fun c27 => ?_)
                      · have f27 := (ti_le (a := 11) (b := v1.toInt) (by decide) rfl).mp c27
                        refine lv_iconst (v := 0) hx hb dX12_act_261 (by decide) ?_
                        exact jn19  (0 : Int32) (show 0 ≤ (0 : Int32).toInt ∧ (0 : Int32).toInt ≤ 29 from by have h56 : (0 : Int32).toInt = 0 := (by decide); omega) _ _ _ hP hD hS (lv_sub hl [0, 1, 2, 3, 4, 5] rfl)
                      · have f27 := mt (ti_le (a := 11) (b := v1.toInt) (by decide) rfl).mpr c27
                        refine lv_iload_n hx hb dX12_act_257 rfl (lv_at hl 4 rfl) ?_
                        refine lv_goto (tgt := 262) hx hb dX12_act_258 (by decide) ?_
                        exact jn19  w1 (show 0 ≤ w1.toInt ∧ w1.toInt ≤ 29 from by omega) _ _ _ hP hD hS (lv_sub hl [0, 1, 2, 3, 4, 5] rfl)
                    · have f15 := mt (ti_le (a := 30) (b := y14_5.toInt) (by decide) rfl).mpr c15
                      have hfc0 := hfc
                      refine lv_aload_n hx hb dX12_act_133 rfl (lv_at hl 2 rfl) ?_
                      refine mget_29 hx hb hts (fun _ h => List.mem_cons_of_mem _ (List.mem_append_right _ h)) hown hK hP (hts (.fieldLink RX12 65 "TalePlayModel" "wasForm" "[I") (by decide +kernel)) dX12_act_134 ?_
                      refine lv_bipush (v := 30) hx hb dX12_act_137 (by decide) ?_
                      refine lv_aload_n hx hb dX12_act_139 rfl (lv_at hl 2 rfl) ?_
                      refine mget_27 (v := (i14 27)) rfl hx hb hts (fun _ h => List.mem_cons_of_mem _ (List.mem_append_right _ h)) hown hK hP (hts (.fieldLink RX12 291 "TalePlayModel" "turns" "I") (by decide +kernel)) dX12_act_140 ?_
                      have rb27_i14 : 0 ≤ (i14 27).toInt ∧ (i14 27).toInt ≤ 100 := hI.1 27
                      have re27_i14 : (i14 27).toInt = (i 27).toInt := congrArg Int32.toInt (hfi 27 (by decide))
                      refine lv_imul hx hb dX12_act_143 ?_
                      refine lv_topi (fun x28 ex28 => ?_)
                      have tx28 := ti_mul (a := 30) (b := (i14 27).toInt) ex28 (by decide) rfl (by omega) (by omega)
                      refine lv_iload hx hb dX12_act_144 (lv_at hl 0 rfl) ?_
                      refine lv_iadd hx hb dX12_act_146 ?_
                      refine lv_topi (fun x29 ex29 => ?_)
                      have tx29 := ti_add (a := (30 * (i14 27).toInt)) (b := y14_5.toInt) ex29 tx28 rfl (by omega) (by omega)
                      refine lv_aload_n hx hb dX12_act_147 rfl (lv_at hl 2 rfl) ?_
                      refine mget_23 hx hb hts (fun _ h => List.mem_cons_of_mem _ (List.mem_append_right _ h)) hown hK hP (hts (.fieldLink RX12 50 "TalePlayModel" "nForm" "[I") (by decide +kernel)) dX12_act_148 ?_
                      refine lv_iload hx hb dX12_act_151 (lv_at hl 0 rfl) ?_
                      refine mld_23 hx hb hK hP (vp_in_iff.mpr (by have h9 : y14_5.toInt = y14_5.toInt := rfl; omega)) dX12_act_153 (fun x30 ex30 => ?_)
                      have rx30 : x30.toInt = -9 ∨ (0 ≤ x30.toInt ∧ x30.toInt ≤ 4) := by rw [ex30]; exact hI.2 23 _
                      refine mst_29 hx hb hK hP hD hS (vp_in_iff.mpr (by have h9 : x29.toInt = ((30 * (i14 27).toInt) + y14_5.toInt) := tx29; omega)) dX12_act_154 (fun H locs hP hD hS => ?_)
                      have hI := mInv_c hI (k := 29) (j := (x29 : Int32).toNatClampNeg) (x := x30) (show (x30 : Int32).toInt = -9 ∨ (0 ≤ (x30 : Int32).toInt ∧ (x30 : Int32).toInt ≤ 4) from by omega)
                      have hfc := fr_c hfc (k := 29) (j := (x29 : Int32).toNatClampNeg) (x := x30) (by decide)
                      refine lv_aload_n hx hb dX12_act_155 rfl (lv_at hl 2 rfl) ?_
                      refine mget_30 hx hb hts (fun _ h => List.mem_cons_of_mem _ (List.mem_append_right _ h)) hown hK hP (hts (.fieldLink RX12 68 "TalePlayModel" "wasAt" "[I") (by decide +kernel)) dX12_act_156 ?_
                      refine lv_bipush (v := 30) hx hb dX12_act_159 (by decide) ?_
                      refine lv_aload_n hx hb dX12_act_161 rfl (lv_at hl 2 rfl) ?_
                      refine mget_27 (v := (i14 27)) rfl hx hb hts (fun _ h => List.mem_cons_of_mem _ (List.mem_append_right _ h)) hown hK hP (hts (.fieldLink RX12 291 "TalePlayModel" "turns" "I") (by decide +kernel)) dX12_act_162 ?_
                      refine lv_imul hx hb dX12_act_165 ?_
                      refine lv_topi (fun x31 ex31 => ?_)
                      have tx31 := ti_mul (a := 30) (b := (i14 27).toInt) ex31 (by decide) rfl (by omega) (by omega)
                      refine lv_iload hx hb dX12_act_166 (lv_at hl 0 rfl) ?_
                      refine lv_iadd hx hb dX12_act_168 ?_
                      refine lv_topi (fun x32 ex32 => ?_)
                      have tx32 := ti_add (a := (30 * (i14 27).toInt)) (b := y14_5.toInt) ex32 tx31 rfl (by omega) (by omega)
                      refine lv_aload_n hx hb dX12_act_169 rfl (lv_at hl 2 rfl) ?_
                      refine mget_24 hx hb hts (fun _ h => List.mem_cons_of_mem _ (List.mem_append_right _ h)) hown hK hP (hts (.fieldLink RX12 53 "TalePlayModel" "nAt" "[I") (by decide +kernel)) dX12_act_170 ?_
                      refine lv_iload hx hb dX12_act_173 (lv_at hl 0 rfl) ?_
                      refine mld_24 hx hb hK hP (vp_in_iff.mpr (by have h9 : y14_5.toInt = y14_5.toInt := rfl; omega)) dX12_act_175 (fun x33 ex33 => ?_)
                      have rx33 : x33.toInt = -9 ∨ (0 ≤ x33.toInt ∧ x33.toInt ≤ 29) := by rw [ex33]; exact hI.2 24 _
                      refine mst_30 hx hb hK hP hD hS (vp_in_iff.mpr (by have h9 : x32.toInt = ((30 * (i14 27).toInt) + y14_5.toInt) := tx32; omega)) dX12_act_176 (fun H locs hP hD hS => ?_)
                      have hI := mInv_c hI (k := 30) (j := (x32 : Int32).toNatClampNeg) (x := x33) (show (x33 : Int32).toInt = -9 ∨ (0 ≤ (x33 : Int32).toInt ∧ (x33 : Int32).toInt ≤ 29) from by omega)
                      have hfc := fr_c hfc (k := 30) (j := (x32 : Int32).toNatClampNeg) (x := x33) (by decide)
                      refine lv_aload_n hx hb dX12_act_177 rfl (lv_at hl 2 rfl) ?_
                      refine mget_31 hx hb hts (fun _ h => List.mem_cons_of_mem _ (List.mem_append_right _ h)) hown hK hP (hts (.fieldLink RX12 71 "TalePlayModel" "wasOpen" "[Z") (by decide +kernel)) dX12_act_178 ?_
                      refine lv_bipush (v := 30) hx hb dX12_act_181 (by decide) ?_
                      refine lv_aload_n hx hb dX12_act_183 rfl (lv_at hl 2 rfl) ?_
                      refine mget_27 (v := (i14 27)) rfl hx hb hts (fun _ h => List.mem_cons_of_mem _ (List.mem_append_right _ h)) hown hK hP (hts (.fieldLink RX12 291 "TalePlayModel" "turns" "I") (by decide +kernel)) dX12_act_184 ?_
                      refine lv_imul hx hb dX12_act_187 ?_
                      refine lv_topi (fun x34 ex34 => ?_)
                      have tx34 := ti_mul (a := 30) (b := (i14 27).toInt) ex34 (by decide) rfl (by omega) (by omega)
                      refine lv_iload hx hb dX12_act_188 (lv_at hl 0 rfl) ?_
                      refine lv_iadd hx hb dX12_act_190 ?_
                      refine lv_topi (fun x35 ex35 => ?_)
                      have tx35 := ti_add (a := (30 * (i14 27).toInt)) (b := y14_5.toInt) ex35 tx34 rfl (by omega) (by omega)
                      refine lv_aload_n hx hb dX12_act_191 rfl (lv_at hl 2 rfl) ?_
                      refine mget_25 hx hb hts (fun _ h => List.mem_cons_of_mem _ (List.mem_append_right _ h)) hown hK hP (hts (.fieldLink RX12 56 "TalePlayModel" "nOpen" "[Z") (by decide +kernel)) dX12_act_192 ?_
                      refine lv_iload hx hb dX12_act_195 (lv_at hl 0 rfl) ?_
                      refine mld_25 hx hb hK hP (vp_in_iff.mpr (by have h9 : y14_5.toInt = y14_5.toInt := rfl; omega)) dX12_act_197 (fun x36 ex36 => ?_)
                      have rx36 : 0 ≤ x36.toInt ∧ x36.toInt ≤ 1 := by rw [ex36]; exact hI.2 25 _
                      refine mst_31 hx hb hK hP hD hS (vp_in_iff.mpr (by have h9 : x35.toInt = ((30 * (i14 27).toInt) + y14_5.toInt) := tx35; omega)) (nb_z (show 0 ≤ (x36 : Int32).toInt ∧ (x36 : Int32).toInt ≤ 1 from by omega)) dX12_act_198 (fun H locs hP hD hS => ?_)
                      have hI := mInv_c hI (k := 31) (j := (x35 : Int32).toNatClampNeg) (x := x36) (show 0 ≤ (x36 : Int32).toInt ∧ (x36 : Int32).toInt ≤ 1 from by omega)
                      have hfc := fr_c hfc (k := 31) (j := (x35 : Int32).toNatClampNeg) (x := x36) (by decide)
                      refine lv_aload_n hx hb dX12_act_199 rfl (lv_at hl 2 rfl) ?_
                      refine mget_32 hx hb hts (fun _ h => List.mem_cons_of_mem _ (List.mem_append_right _ h)) hown hK hP (hts (.fieldLink RX12 74 "TalePlayModel" "wasLocked" "[Z") (by decide +kernel)) dX12_act_200 ?_
                      refine lv_bipush (v := 30) hx hb dX12_act_203 (by decide) ?_
                      refine lv_aload_n hx hb dX12_act_205 rfl (lv_at hl 2 rfl) ?_
                      refine mget_27 (v := (i14 27)) rfl hx hb hts (fun _ h => List.mem_cons_of_mem _ (List.mem_append_right _ h)) hown hK hP (hts (.fieldLink RX12 291 "TalePlayModel" "turns" "I") (by decide +kernel)) dX12_act_206 ?_
                      refine lv_imul hx hb dX12_act_209 ?_
                      refine lv_topi (fun x37 ex37 => ?_)
                      have tx37 := ti_mul (a := 30) (b := (i14 27).toInt) ex37 (by decide) rfl (by omega) (by omega)
                      refine lv_iload hx hb dX12_act_210 (lv_at hl 0 rfl) ?_
                      refine lv_iadd hx hb dX12_act_212 ?_
                      refine lv_topi (fun x38 ex38 => ?_)
                      have tx38 := ti_add (a := (30 * (i14 27).toInt)) (b := y14_5.toInt) ex38 tx37 rfl (by omega) (by omega)
                      refine lv_aload_n hx hb dX12_act_213 rfl (lv_at hl 2 rfl) ?_
                      refine mget_26 hx hb hts (fun _ h => List.mem_cons_of_mem _ (List.mem_append_right _ h)) hown hK hP (hts (.fieldLink RX12 59 "TalePlayModel" "nLocked" "[Z") (by decide +kernel)) dX12_act_214 ?_
                      refine lv_iload hx hb dX12_act_217 (lv_at hl 0 rfl) ?_
                      refine mld_26 hx hb hK hP (vp_in_iff.mpr (by have h9 : y14_5.toInt = y14_5.toInt := rfl; omega)) dX12_act_219 (fun x39 ex39 => ?_)
                      have rx39 : 0 ≤ x39.toInt ∧ x39.toInt ≤ 1 := by rw [ex39]; exact hI.2 26 _
                      refine mst_32 hx hb hK hP hD hS (vp_in_iff.mpr (by have h9 : x38.toInt = ((30 * (i14 27).toInt) + y14_5.toInt) := tx38; omega)) (nb_z (show 0 ≤ (x39 : Int32).toInt ∧ (x39 : Int32).toInt ≤ 1 from by omega)) dX12_act_220 (fun H locs hP hD hS => ?_)
                      have hI := mInv_c hI (k := 32) (j := (x38 : Int32).toNatClampNeg) (x := x39) (show 0 ≤ (x39 : Int32).toInt ∧ (x39 : Int32).toInt ≤ 1 from by omega)
                      have hfc := fr_c hfc (k := 32) (j := (x38 : Int32).toNatClampNeg) (x := x39) (by decide)
                      obtain ⟨x40, ex40⟩ : ∃ y : Int32, y = y14_5 + 1 := ⟨_, rfl⟩
                      have tx40 := ti_add (a := y14_5.toInt) (b := 1) ex40 rfl (by decide) (by omega) (by omega)
                      refine lv_iinc (v := x40) (lv' := [(5, .int x40), (4, .int r12), (0, .ref o), (1, .int v1), (2, .int w1), (3, .int w2)]) hx hb dX12_act_221 hl (k := 0) rfl (by rw [ex40]; rfl) (by decide) rfl (fun ls hl => ?_)
                      refine lv_goto (tgt := 126) hx hb dX12_act_224 (by decide) ?_
                      exact ih14 i14 q14 (updA (updA (updA (updA c14 29 (x29 : Int32).toNatClampNeg x30) 30 (x32 : Int32).toNatClampNeg x33) 31 (x35 : Int32).toNatClampNeg x36) 32 (x38 : Int32).toNatClampNeg x39) d14 x40 hI (fr_w hfi (by decide)) (fr_w hfc (by decide)) hs_C hs_R hs_A (show 0 ≤ x40.toInt ∧ x40.toInt ≤ 30 from by have h50 : x40.toInt = (y14_5.toInt + 1) := tx40; omega) (show RW ((updA (updA (updA (updA c14 29 (x29 : Int32).toNatClampNeg x30) 30 (x32 : Int32).toNatClampNeg x33) 31 (x35 : Int32).toNatClampNeg x36) 32 (x38 : Int32).toNatClampNeg x39) 29) ((updA (updA (updA (updA c14 29 (x29 : Int32).toNatClampNeg x30) 30 (x32 : Int32).toNatClampNeg x33) 31 (x35 : Int32).toNatClampNeg x36) 32 (x38 : Int32).toNatClampNeg x39) 30) (c 29) (c 30) (c 23) (c 24) (i 27).toInt.toNat x40.toInt from RW_a (T := i 27) hz14_0 (by omega) (by omega) tx40 (by have h9 := tx29; omega) (by have h9 := tx32; omega) (Eq.trans (show x30 = c14 23 _ from ex30) (congrFun (hfc0 23 (by decide)) _)) (Eq.trans (show x33 = c14 24 _ from ex33) (congrFun (hfc0 24 (by decide)) _))) (show ((i14 27) : Int32).toInt = (i 27).toInt from by have h50 : x40.toInt = (y14_5.toInt + 1) := tx40; omega) (by have h50 : x40.toInt = (y14_5.toInt + 1) := tx40; omega) _ _ _ hP hD hS (lv_sub hl [0, 1, 2, 3, 4, 5] rfl)
                exact lp14 _ i12 q12 c12 d12 (0 : Int32) hI (fr_w hfi (by decide)) (fr_w hfc (by decide)) hs_C hs_R hs_A (show 0 ≤ (0 : Int32).toInt ∧ (0 : Int32).toInt ≤ 30 from by have h50 : (0 : Int32).toInt = 0 := (by decide); omega) (show RW (c12 29) (c12 30) (c 29) (c 30) (c 23) (c 24) (i 27).toInt.toNat (0 : Int32).toInt from by rw [show c12 29 = c 29 from hfc 29 (by decide), show c12 30 = c 30 from hfc 30 (by decide)]; exact RW_0 (by decide)) (show ((i12 27) : Int32).toInt = (i 27).toInt from by have h50 : (0 : Int32).toInt = 0 := (by decide); omega) (Nat.lt_succ_self _) _ _ _ hP hD hS (lv_sub hl [0, 1, 2, 3, 4, 5] rfl)
              · have f13 := mt (ti_le (a := r12.toInt) (b := 0) rfl (by decide)).mpr c13
                refine lv_iload hx hb dX12_act_120 (lv_at hl 0 rfl) ?_
                exact rw_iret (i12, q12, c12, d12) hx hb hr hlocks hS (hK.sub (tys' := []) [] rfl) hP hD dX12_act_122 ⟨trivial, hI, fr_w hfi (by decide), fr_w hfc (by decide), (show SJ (c12 3) (c12 6) (c12 9) (c12 10) (c12 11) (c12 13) ((i12 2) : Int32).toInt ((i12 5) : Int32).toInt ((i12 8) : Int32).toInt from by rw [show c12 3 = c 3 from hfc 3 (by decide), show c12 6 = c 6 from hfc 6 (by decide), show c12 9 = c 9 from hfc 9 (by decide), show c12 10 = c 10 from hfc 10 (by decide), show c12 11 = c 11 from hfc 11 (by decide), show c12 13 = c 13 from hfc 13 (by decide), show i12 2 = i 2 from hfi 2 (by decide), show i12 5 = i 5 from hfi 5 (by decide), show i12 8 = i 8 from hfi 8 (by decide)]; exact hs_S), (show TJ (c12 3) (c12 6) (c12 23) (c12 24) (c12 29) (c12 30) ((i12 5) : Int32).toInt ((i12 22) : Int32).toInt ((i12 27) : Int32).toInt from by rw [show c12 3 = c 3 from hfc 3 (by decide), show c12 6 = c 6 from hfc 6 (by decide), show c12 23 = c 23 from hfc 23 (by decide), show c12 24 = c 24 from hfc 24 (by decide), show c12 29 = c 29 from hfc 29 (by decide), show c12 30 = c 30 from hfc 30 (by decide), show i12 5 = i 5 from hfi 5 (by decide), show i12 22 = i 22 from hfi 22 (by decide), show i12 27 = i 27 from hfi 27 (by decide)]; exact hs_J)⟩
            · have f9 := (ti_eq (a := (i 22).toInt) (b := (-9)) rfl (by decide)).mp c9
              refine lv_bipush (v := (-5)) hx hb dX12_act_95 (by decide) ?_
              exact rw_iret (i, q, c, d) hx hb hr hlocks hS (hK.sub (tys' := []) [] rfl) hP hD dX12_act_97 ⟨trivial, hI, fr_w hfi (by decide), fr_w hfc (by decide), (show SJ (c 3) (c 6) (c 9) (c 10) (c 11) (c 13) ((i 2) : Int32).toInt ((i 5) : Int32).toInt ((i 8) : Int32).toInt from hs_S), (show TJ (c 3) (c 6) (c 23) (c 24) (c 29) (c 30) ((i 5) : Int32).toInt ((i 22) : Int32).toInt ((i 27) : Int32).toInt from hs_J)⟩
          refine lv_icmp_eq (tgt := 86) hx hb dX12_act_71 (by decide) (fun c41 => ?_) (fun c41 => ?_)
          · have f41 := (ti_eq (a := (i 22).toInt) (b := (-9)) rfl (by decide)).mp c41
            exact jn8   (show (i 22).toInt = -9 ∨ ¬ (i 27).toInt = 100 from by omega) _ _ _ hP hD hS (lv_sub hl [0, 1, 2, 3] rfl)
          · have f41 := mt (ti_eq (a := (i 22).toInt) (b := (-9)) rfl (by decide)).mpr c41
            refine lv_aload_n hx hb dX12_act_74 rfl (lv_at hl 0 rfl) ?_
            refine mget_27 (v := (i 27)) rfl hx hb hts (fun _ h => List.mem_cons_of_mem _ (List.mem_append_right _ h)) hown hK hP (hts (.fieldLink RX12 291 "TalePlayModel" "turns" "I") (by decide +kernel)) dX12_act_75 ?_
            refine lv_bipush (v := 100) hx hb dX12_act_78 (by decide) ?_
            refine lv_icmp_ne (tgt := 86) hx hb dX12_act_80 (by decide) (fun c42 => ?_) (fun c42 => ?_)
            · have f42 := mt (ti_eq (a := (i 27).toInt) (b := 100) rfl (by decide)).mpr c42
              exact jn8   (show (i 22).toInt = -9 ∨ ¬ (i 27).toInt = 100 from by omega) _ _ _ hP hD hS (lv_sub hl [0, 1, 2, 3] rfl)
            · have f42 := (ti_eq (a := (i 27).toInt) (b := 100) rfl (by decide)).mp c42
              refine lv_bipush (v := (-2)) hx hb dX12_act_83 (by decide) ?_
              exact rw_iret (i, q, c, d) hx hb hr hlocks hS (hK.sub (tys' := []) [] rfl) hP hD dX12_act_85 ⟨trivial, hI, fr_w hfi (by decide), fr_w hfc (by decide), (show SJ (c 3) (c 6) (c 9) (c 10) (c 11) (c 13) ((i 2) : Int32).toInt ((i 5) : Int32).toInt ((i 8) : Int32).toInt from hs_S), (show TJ (c 3) (c 6) (c 23) (c 24) (c 29) (c 30) ((i 5) : Int32).toInt ((i 22) : Int32).toInt ((i 27) : Int32).toInt from hs_J)⟩
        refine lv_if_eq (tgt := 65) hx hb dX12_act_52 (by decide) (fun c43 => ?_) (fun c43 => ?_)
        · have f43 := fl_f hw6 c43
          exact jn7   (show v1.toInt = 3 ∨ v1.toInt = 4 ∨ v1.toInt = 7 ∨ v1.toInt = 8 → 0 ≤ w2.toInt ∧ w2.toInt < (i 5).toInt from by omega) _ _ _ hP hD hS (lv_sub hl [0, 1, 2, 3] rfl)
        · have f43 := fl_t hw6 c43
          refine lv_aload_n hx hb dX12_act_55 rfl (lv_at hl 0 rfl) ?_
          refine lv_iload_n hx hb dX12_act_56 rfl (lv_at hl 3 rfl) ?_
          refine ro_calli (va_runV (As := [.int w2]) (rest := []) ⟨hx, hb, hml, hown, hts⟩ (s_X12_isObject l D H.size o a t i q c d w2 hI ) (cwV 1 hts gm_X12_act_X12_isObject rfl rfl rfl (by decide +kernel) ⟨Nat.le_of_ble_eq_true rfl, Nat.le_of_ble_eq_true rfl⟩) (pA_V hK hP (ci := 12) (q0 := 0) rfl rfl) rfl rfl hl.1 rfl (lv_room (Nat.le_of_ble_eq_true rfl)) dX12_act_57 ⟨Nat.le_of_ble_eq_true rfl, Nat.le_of_ble_eq_true rfl⟩) hS hA hP (fun r44 u44 H locs hw44 hP hS => ?_)
          have hw44 : r44 = if (0 ≤ w2.toInt ∧ w2.toInt ≤ (i 5).toInt - 1) then 1 else 0 := hw44
          refine lv_if_ne (tgt := 65) hx hb dX12_act_60 (by decide) (fun c45 => ?_) (fun c45 => ?_)
          · have f45 := fl_t hw44 c45
            exact jn7   (show v1.toInt = 3 ∨ v1.toInt = 4 ∨ v1.toInt = 7 ∨ v1.toInt = 8 → 0 ≤ w2.toInt ∧ w2.toInt < (i 5).toInt from by omega) _ _ _ hP hD hS (lv_sub hl [0, 1, 2, 3] rfl)
          · have f45 := fl_f hw44 c45
            refine lv_iconst (v := (-1)) hx hb dX12_act_63 (by decide) ?_
            exact rw_iret (i, q, c, d) hx hb hr hlocks hS (hK.sub (tys' := []) [] rfl) hP hD dX12_act_64 ⟨trivial, hI, fr_w hfi (by decide), fr_w hfc (by decide), (show SJ (c 3) (c 6) (c 9) (c 10) (c 11) (c 13) ((i 2) : Int32).toInt ((i 5) : Int32).toInt ((i 8) : Int32).toInt from hs_S), (show TJ (c 3) (c 6) (c 23) (c 24) (c 29) (c 30) ((i 5) : Int32).toInt ((i 22) : Int32).toInt ((i 27) : Int32).toInt from hs_J)⟩
      refine lv_if_eq (tgt := 48) hx hb dX12_act_37 (by decide) (fun c46 => ?_) (fun c46 => ?_)
      · have f46 := fl_f hw4 c46
        exact jn5   (show 1 ≤ v1.toInt ∧ v1.toInt ≤ 10 → 0 ≤ w1.toInt ∧ w1.toInt < (i 5).toInt from by omega) _ _ _ hP hD hS (lv_sub hl [0, 1, 2, 3] rfl)
      · have f46 := fl_t hw4 c46
        refine lv_aload_n hx hb dX12_act_40 rfl (lv_at hl 0 rfl) ?_
        refine lv_iload_n hx hb dX12_act_41 rfl (lv_at hl 2 rfl) ?_
        refine ro_calli (va_runV (As := [.int w1]) (rest := []) ⟨hx, hb, hml, hown, hts⟩ (s_X12_isObject l D H.size o a t i q c d w1 hI ) (cwV 1 hts gm_X12_act_X12_isObject rfl rfl rfl (by decide +kernel) ⟨Nat.le_of_ble_eq_true rfl, Nat.le_of_ble_eq_true rfl⟩) (pA_V hK hP (ci := 12) (q0 := 0) rfl rfl) rfl rfl hl.1 rfl (lv_room (Nat.le_of_ble_eq_true rfl)) dX12_act_42 ⟨Nat.le_of_ble_eq_true rfl, Nat.le_of_ble_eq_true rfl⟩) hS hA hP (fun r47 u47 H locs hw47 hP hS => ?_)
        have hw47 : r47 = if (0 ≤ w1.toInt ∧ w1.toInt ≤ (i 5).toInt - 1) then 1 else 0 := hw47
        refine lv_if_eq (tgt := 63) hx hb dX12_act_45 (by decide) (fun c48 => ?_) (fun c48 => ?_)
        · have f48 := fl_f hw47 c48
          refine lv_iconst (v := (-1)) hx hb dX12_act_63 (by decide) ?_
          exact rw_iret (i, q, c, d) hx hb hr hlocks hS (hK.sub (tys' := []) [] rfl) hP hD dX12_act_64 ⟨trivial, hI, fr_w hfi (by decide), fr_w hfc (by decide), (show SJ (c 3) (c 6) (c 9) (c 10) (c 11) (c 13) ((i 2) : Int32).toInt ((i 5) : Int32).toInt ((i 8) : Int32).toInt from hs_S), (show TJ (c 3) (c 6) (c 23) (c 24) (c 29) (c 30) ((i 5) : Int32).toInt ((i 22) : Int32).toInt ((i 27) : Int32).toInt from hs_J)⟩
        · have f48 := fl_t hw47 c48
          exact jn5   (show 1 ≤ v1.toInt ∧ v1.toInt ≤ 10 → 0 ≤ w1.toInt ∧ w1.toInt < (i 5).toInt from by omega) _ _ _ hP hD hS (lv_sub hl [0, 1, 2, 3] rfl)
    refine lv_if_ne (tgt := 28) hx hb dX12_act_13 (by decide) (fun c49 => ?_) (fun c49 => ?_)
    · have f49 := mt (ti_eq (a := v1.toInt) (b := 0) rfl (by decide)).mpr c49
      exact jn3   (show v1.toInt = 0 → 0 ≤ w1.toInt ∧ w1.toInt ≤ 9 from by omega) _ _ _ hP hD hS (lv_sub hl [0, 1, 2, 3] rfl)
    · have f49 := (ti_eq (a := v1.toInt) (b := 0) rfl (by decide)).mp c49
      refine lv_iload_n hx hb dX12_act_16 rfl (lv_at hl 2 rfl) ?_
      refine lv_i2l (v := w1.toInt64) hx hb dX12_act_17 rfl ?_
      refine lv_lconst (v := 0) hx hb dX12_act_18 (by decide) ?_
      refine lv_ldc2 (v := 9) hx hb hown (hts (.constantLong RX12 197 (9)) (by decide +kernel)) dX12_act_19 ?_
      have hPc := hP.sub (ws' := []) [] rfl
      have hKc := hK.sub (tys' := []) [] rfl
      refine ro_calli (va_runS (As := [.long w1.toInt64, .long 0, .long 9]) (rest := []) ⟨hx, hb, hml, hown, hts⟩ (c_X12_in l D H.size w1.toInt64 0 9 w1.toInt 0 9 ((Int32.toInt_toInt64 w1).trans rfl) (by decide) (by decide)) (va_cwS 3 hts gm_X12_act_X12_in rfl rfl rfl (by decide +kernel) ⟨Nat.le_of_ble_eq_true rfl, Nat.le_of_ble_eq_true rfl⟩) (pA_S hKc hPc) rfl rfl hl.1 rfl (lv_room (Nat.le_of_ble_eq_true rfl)) dX12_act_22 ⟨Nat.le_of_ble_eq_true rfl, Nat.le_of_ble_eq_true rfl⟩) hS hA hP (fun r50 u50 H locs hw50 hP hS => ?_)
      have hw50 : r50 = if (0 ≤ w1.toInt ∧ w1.toInt ≤ 9) then 1 else 0 := hw50
      refine lv_if_eq (tgt := 63) hx hb dX12_act_25 (by decide) (fun c51 => ?_) (fun c51 => ?_)
      · have f51 := fl_f hw50 c51
        refine lv_iconst (v := (-1)) hx hb dX12_act_63 (by decide) ?_
        exact rw_iret (i, q, c, d) hx hb hr hlocks hS (hK.sub (tys' := []) [] rfl) hP hD dX12_act_64 ⟨trivial, hI, fr_w hfi (by decide), fr_w hfc (by decide), (show SJ (c 3) (c 6) (c 9) (c 10) (c 11) (c 13) ((i 2) : Int32).toInt ((i 5) : Int32).toInt ((i 8) : Int32).toInt from hs_S), (show TJ (c 3) (c 6) (c 23) (c 24) (c 29) (c 30) ((i 5) : Int32).toInt ((i 22) : Int32).toInt ((i 27) : Int32).toInt from hs_J)⟩
      · have f51 := fl_t hw50 c51
        exact jn3   (show v1.toInt = 0 → 0 ≤ w1.toInt ∧ w1.toInt ≤ 9 from by omega) _ _ _ hP hD hS (lv_sub hl [0, 1, 2, 3] rfl)

def wm_X12_back : List Cond := .code yX12_back cX12_back 2 (some .int) :: (([.fieldLink RX12 155 "TalePlayModel" "player" "I", .fieldLink RX12 291 "TalePlayModel" "turns" "I", .fieldLink RX12 50 "TalePlayModel" "nForm" "[I", .fieldLink RX12 65 "TalePlayModel" "wasForm" "[I", .fieldLink RX12 53 "TalePlayModel" "nAt" "[I", .fieldLink RX12 68 "TalePlayModel" "wasAt" "[I", .fieldLink RX12 56 "TalePlayModel" "nOpen" "[Z", .fieldLink RX12 71 "TalePlayModel" "wasOpen" "[Z", .fieldLink RX12 59 "TalePlayModel" "nLocked" "[Z", .fieldLink RX12 74 "TalePlayModel" "wasLocked" "[Z"] : List Cond) ++ wsX120)
set_option maxHeartbeats 4000000 in
set_option maxRecDepth 100000 in
theorem s_X12_back (l : Launch) (D : va_G) (sz : Nat) (o : Nat) (a : Nat → Nat) (t : Nat → ClassId) (i : Nat → Int32) (q : Int64) (c : Nat → Nat → Int32) (d : Nat → Nat → Int64) (hI : mInv i c) (hs_S : SJ (c 3) (c 6) (c 9) (c 10) (c 11) (c 13) (i 2).toInt (i 5).toInt (i 8).toInt) (hs_J : TJ (c 3) (c 6) (c 23) (c 24) (c 29) (c 30) (i 5).toInt (i 22).toInt (i 27).toInt) : Met l yX12_back wm_X12_back ({ frames := 0, cells := 0, slots := 0, locals := 0 }) (va_Pc [.ref o] (pB D sz (mW o a t i q c d) (mT t))) (va_Qi (fun (r : Int32) (u : MS) => True ∧ mInv u.1 u.2.2.1 ∧ (∀ k, k ∉ ([27] : List Nat) → u.1 k = i k) ∧ (∀ k, k ∉ ([23, 24, 25, 26] : List Nat) → u.2.2.1 k = c k) ∧ (SJ (u.2.2.1 3) (u.2.2.1 6) (u.2.2.1 9) (u.2.2.1 10) (u.2.2.1 11) (u.2.2.1 13) (u.1 2).toInt (u.1 5).toInt (u.1 8).toInt) ∧ (TJ (u.2.2.1 3) (u.2.2.1 6) (u.2.2.1 23) (u.2.2.1 24) (u.2.2.1 29) (u.2.2.1 30) (u.1 5).toInt (u.1 22).toInt (u.1 27).toInt)) (oC D (va_A (mW o a t i q c d) sz) (fun u : MS => mW o a t u.1 u.2.1 u.2.2.1 u.2.2.2) (fun _ => [])) (va_A (mW o a t i q c d) sz)) 0 0 (va_A (mW o a t i q c d) sz) := by
  refine Met.ofW (cc := cX12_back) (maxL := 2) (ret := (some .int)) (by decide) rfl ?_
  intro p e s m args below meth cd s₁ B hml hv
  obtain ⟨rfl, hsz, hP, hK, hD0⟩ := hv
  have hx := B.exec
  have hb := B.bytes
  have hr := B.returns
  have hts := atoms_spec (ws := wm_X12_back) B.pre
  have hown : s.vm.findClass RX12 = some m.cls := findClass_of_methodNamed B.named
  have hlocks := B.notSynchronized
  subst hsz
  have hD := hD0.self (sz := s.heap.size)
  generalize hAe : va_A (mW o a t i q c d) s.heap.size = A at hD ⊢
  have hA : ∀ q : Nat, s.heap.size ≤ q → A q := fun q h => by rw [← hAe]; exact Or.inr h
  have hS : va_S A s.heap s.heap [] := va_S.rf
  have hfi : ∀ k, k ∉ ([] : List Nat) → i k = i k := fun _ _ => rfl
  have hfc : ∀ k, k ∉ ([] : List Nat) → c k = c k := fun _ _ => rfl
  have hl := lv_entry ([.ref o]) (n := 2) (Nat.le_of_ble_eq_true rfl)
  rw [lg_entry_eq]
  generalize (lg_sl ([.ref o]) ++ List.replicate (2 - (lg_sl ([.ref o])).length) Slot.unset).toArray = ls at hl ⊢
  have hl : lv_has ls 2 [(0, .ref o)] := hl
  have rb5_i : 0 ≤ (i 5).toInt ∧ (i 5).toInt ≤ 30 := hI.1 5
  have rb22_i : (i 22).toInt = -9 ∨ (0 ≤ (i 22).toInt ∧ (i 22).toInt ≤ 29) := hI.1 22
  have rb27_i : 0 ≤ (i 27).toInt ∧ (i 27).toInt ≤ 100 := hI.1 27
  refine lv_aload_n hx hb dX12_back_0 rfl (lv_at hl 0 rfl) ?_
  refine mget_22 (v := (i 22)) rfl hx hb hts (fun _ h => List.mem_cons_of_mem _ (List.mem_append_right _ h)) hown hK hP (hts (.fieldLink RX12 155 "TalePlayModel" "player" "I") (by decide +kernel)) dX12_back_1 ?_
  refine lv_bipush (v := (-9)) hx hb dX12_back_4 (by decide) ?_
  refine lv_icmp_eq (tgt := 16) hx hb dX12_back_6 (by decide) (fun c1 => ?_) (fun c1 => ?_)
  · have f1 := (ti_eq (a := (i 22).toInt) (b := (-9)) rfl (by decide)).mp c1
    refine lv_bipush (v := (-5)) hx hb dX12_back_16 (by decide) ?_
    exact rw_iret (i, q, c, d) hx hb hr hlocks hS (hK.sub (tys' := []) [] rfl) hP hD dX12_back_18 ⟨trivial, hI, fr_w hfi (by decide), fr_w hfc (by decide), (show SJ (c 3) (c 6) (c 9) (c 10) (c 11) (c 13) ((i 2) : Int32).toInt ((i 5) : Int32).toInt ((i 8) : Int32).toInt from hs_S), (show TJ (c 3) (c 6) (c 23) (c 24) (c 29) (c 30) ((i 5) : Int32).toInt ((i 22) : Int32).toInt ((i 27) : Int32).toInt from hs_J)⟩
  · have f1 := mt (ti_eq (a := (i 22).toInt) (b := (-9)) rfl (by decide)).mpr c1
    refine lv_aload_n hx hb dX12_back_9 rfl (lv_at hl 0 rfl) ?_
    refine mget_27 (v := (i 27)) rfl hx hb hts (fun _ h => List.mem_cons_of_mem _ (List.mem_append_right _ h)) hown hK hP (hts (.fieldLink RX12 291 "TalePlayModel" "turns" "I") (by decide +kernel)) dX12_back_10 ?_
    refine lv_if_ne (tgt := 19) hx hb dX12_back_13 (by decide) (fun c2 => ?_) (fun c2 => ?_)
    · have f2 := mt (ti_eq (a := (i 27).toInt) (b := 0) rfl (by decide)).mpr c2
      refine lv_aload_n hx hb dX12_back_19 rfl (lv_at hl 0 rfl) ?_
      refine lv_dup hx hb dX12_back_20 rfl ?_
      refine mget_27 (v := (i 27)) rfl hx hb hts (fun _ h => List.mem_cons_of_mem _ (List.mem_append_right _ h)) hown hK hP (hts (.fieldLink RX12 291 "TalePlayModel" "turns" "I") (by decide +kernel)) dX12_back_21 ?_
      refine lv_iconst (v := 1) hx hb dX12_back_24 (by decide) ?_
      refine lv_isub hx hb dX12_back_25 ?_
      refine lv_topi (fun x3 ex3 => ?_)
      have tx3 := ti_sub (a := (i 27).toInt) (b := 1) ex3 rfl (by decide) (by omega) (by omega)
      refine mput_27 hx hb hts (fun _ h => List.mem_cons_of_mem _ (List.mem_append_right _ h)) hown hK hP hD hS (hts (.fieldLink RX12 291 "TalePlayModel" "turns" "I") (by decide +kernel)) rfl rfl dX12_back_26 (fun H locs hP hD hS => ?_)
      have hI := mInv_i hI (k := 27) (v := x3) (show 0 ≤ (x3 : Int32).toInt ∧ (x3 : Int32).toInt ≤ 100 from by have h9 : x3.toInt = ((i 27).toInt - 1) := tx3; omega)
      have hfi : ∀ k, k ∉ ([27] : List Nat) → (upd i 27 x3) k = i k := fr_iz hfi (by decide) (by decide)
      refine lv_iconst (v := 0) hx hb dX12_back_29 (by decide) ?_
      refine lv_istore_n (lv' := [(1, .int 0), (0, .ref o)]) hx hb dX12_back_30 rfl hl (by decide) rfl (fun ls hl => ?_)
      have lp4 : ∀ (fu : Nat) (i4 : Nat → Int32) (q4 : Int64) (c4 : Nat → Nat → Int32) (d4 : Nat → Nat → Int64) (y4_1 : Int32), mInv i4 c4 → (∀ k, k ∉ ([27] : List Nat) → i4 k = i k) → (∀ k, k ∉ ([23, 24, 25, 26] : List Nat) → c4 k = c k) → (0 ≤ y4_1.toInt ∧ y4_1.toInt ≤ 30) → (GB (c4 23) (c4 24) (c 29) (c 30) x3.toInt.toNat y4_1.toInt) → (((i4 27) : Int32).toInt = x3.toInt) → (30 - y4_1.toInt).toNat < fu → ∀ (H : Heap) (locs : List Loc) (ls : Array Slot), va_P D vwCl (mW o a t i4 q4 c4 d4) H → va_D A (mW o a t i4 q4 c4 d4) → va_S A s.heap H locs → lv_has ls 2 [(1, .int y4_1), (0, .ref o)] → W p l e (headSpec wm_X12_back ({ frames := 0, cells := 0, slots := 0, locals := 0 })).room s m ([.ref o] : List Value).toArray below meth cd H locs 0 0 (MQ below (va_Qi (fun (r : Int32) (u : MS) => True ∧ mInv u.1 u.2.2.1 ∧ (∀ k, k ∉ ([27] : List Nat) → u.1 k = i k) ∧ (∀ k, k ∉ ([23, 24, 25, 26] : List Nat) → u.2.2.1 k = c k) ∧ (SJ (u.2.2.1 3) (u.2.2.1 6) (u.2.2.1 9) (u.2.2.1 10) (u.2.2.1 11) (u.2.2.1 13) (u.1 2).toInt (u.1 5).toInt (u.1 8).toInt) ∧ (TJ (u.2.2.1 3) (u.2.2.1 6) (u.2.2.1 23) (u.2.2.1 24) (u.2.2.1 29) (u.2.2.1 30) (u.1 5).toInt (u.1 22).toInt (u.1 27).toInt)) (oC D A (fun u : MS => mW o a t u.1 u.2.1 u.2.2.1 u.2.2.2) (fun _ => [])) A) ([.ref o] : List Value).toArray s 0 0 A) (F0 m 31 ls []) := by
        intro fu
        induction fu with
        | zero => intro i4 q4 c4 d4 y4_1 hI hfi hfc hy4_1 hz4_0 hz4_1 hm; exact absurd hm (Nat.not_lt_zero _)
        | succ fu ih =>
          intro i4 q4 c4 d4 y4_1 hI hfi hfc hy4_1 hz4_0 hz4_1 hm H locs ls hP hD hS hl
          have ih4 := ih
          refine lv_iload_n hx hb dX12_back_31 rfl (lv_at hl 0 rfl) ?_
          refine lv_bipush (v := 30) hx hb dX12_back_32 (by decide) ?_
          refine lv_icmp_ge (tgt := 123) hx hb dX12_back_34 (by decide) (fun c5 => ?_) (fun c5 => ?_)
          · have f5 := (ti_le (a := 30) (b := y4_1.toInt) (by decide) rfl).mp c5
            refine lv_aload_n hx hb dX12_back_123 rfl (lv_at hl 1 rfl) ?_
            refine mget_27 (v := (i4 27)) rfl hx hb hts (fun _ h => List.mem_cons_of_mem _ (List.mem_append_right _ h)) hown hK hP (hts (.fieldLink RX12 291 "TalePlayModel" "turns" "I") (by decide +kernel)) dX12_back_124 ?_
            have rb27_i4 : 0 ≤ (i4 27).toInt ∧ (i4 27).toInt ≤ 100 := hI.1 27
            exact rw_iret (i4, q4, c4, d4) hx hb hr hlocks hS (hK.sub (tys' := []) [] rfl) hP hD dX12_back_127 ⟨trivial, hI, fr_w hfi (by decide), fr_w hfc (by decide), (show SJ (c4 3) (c4 6) (c4 9) (c4 10) (c4 11) (c4 13) ((i4 2) : Int32).toInt ((i4 5) : Int32).toInt ((i4 8) : Int32).toInt from by rw [show c4 3 = c 3 from hfc 3 (by decide), show c4 6 = c 6 from hfc 6 (by decide), show c4 9 = c 9 from hfc 9 (by decide), show c4 10 = c 10 from hfc 10 (by decide), show c4 11 = c 11 from hfc 11 (by decide), show c4 13 = c 13 from hfc 13 (by decide), show i4 2 = i 2 from hfi 2 (by decide), show i4 5 = i 5 from hfi 5 (by decide), show i4 8 = i 8 from hfi 8 (by decide)]; exact hs_S), (show TJ (c4 3) (c4 6) (c4 23) (c4 24) (c4 29) (c4 30) ((i4 5) : Int32).toInt ((i4 22) : Int32).toInt ((i4 27) : Int32).toInt from by rw [show c4 3 = c 3 from hfc 3 (by decide), show c4 6 = c 6 from hfc 6 (by decide), show c4 29 = c 29 from hfc 29 (by decide), show c4 30 = c 30 from hfc 30 (by decide), show i4 5 = i 5 from hfi 5 (by decide), show i4 22 = i 22 from hfi 22 (by decide)]; exact TJ_back (x := y4_1) (t := x3) hs_J (by omega) (by have h9 := tx3; omega) (by omega) hz4_0 (by omega) (by omega))⟩
          · have f5 := mt (ti_le (a := 30) (b := y4_1.toInt) (by decide) rfl).mpr c5
            have hfc0 := hfc
            refine lv_aload_n hx hb dX12_back_37 rfl (lv_at hl 1 rfl) ?_
            refine mget_23 hx hb hts (fun _ h => List.mem_cons_of_mem _ (List.mem_append_right _ h)) hown hK hP (hts (.fieldLink RX12 50 "TalePlayModel" "nForm" "[I") (by decide +kernel)) dX12_back_38 ?_
            refine lv_iload_n hx hb dX12_back_41 rfl (lv_at hl 0 rfl) ?_
            refine lv_aload_n hx hb dX12_back_42 rfl (lv_at hl 1 rfl) ?_
            refine mget_29 hx hb hts (fun _ h => List.mem_cons_of_mem _ (List.mem_append_right _ h)) hown hK hP (hts (.fieldLink RX12 65 "TalePlayModel" "wasForm" "[I") (by decide +kernel)) dX12_back_43 ?_
            refine lv_bipush (v := 30) hx hb dX12_back_46 (by decide) ?_
            refine lv_aload_n hx hb dX12_back_48 rfl (lv_at hl 1 rfl) ?_
            refine mget_27 (v := (i4 27)) rfl hx hb hts (fun _ h => List.mem_cons_of_mem _ (List.mem_append_right _ h)) hown hK hP (hts (.fieldLink RX12 291 "TalePlayModel" "turns" "I") (by decide +kernel)) dX12_back_49 ?_
            have rb27_i4 : 0 ≤ (i4 27).toInt ∧ (i4 27).toInt ≤ 100 := hI.1 27
            refine lv_imul hx hb dX12_back_52 ?_
            refine lv_topi (fun x6 ex6 => ?_)
            have tx6 := ti_mul (a := 30) (b := (i4 27).toInt) ex6 (by decide) rfl (by omega) (by omega)
            refine lv_iload_n hx hb dX12_back_53 rfl (lv_at hl 0 rfl) ?_
            refine lv_iadd hx hb dX12_back_54 ?_
            refine lv_topi (fun x7 ex7 => ?_)
            have tx7 := ti_add (a := (30 * (i4 27).toInt)) (b := y4_1.toInt) ex7 tx6 rfl (by omega) (by omega)
            refine mld_29 hx hb hK hP (vp_in_iff.mpr (by have h9 : x7.toInt = ((30 * (i4 27).toInt) + y4_1.toInt) := tx7; omega)) dX12_back_55 (fun x8 ex8 => ?_)
            have rx8 : x8.toInt = -9 ∨ (0 ≤ x8.toInt ∧ x8.toInt ≤ 4) := by rw [ex8]; exact hI.2 29 _
            refine mst_23 hx hb hK hP hD hS (vp_in_iff.mpr (by have h9 : y4_1.toInt = y4_1.toInt := rfl; omega)) dX12_back_56 (fun H locs hP hD hS => ?_)
            have hI := mInv_c hI (k := 23) (j := (y4_1 : Int32).toNatClampNeg) (x := x8) (show (x8 : Int32).toInt = -9 ∨ (0 ≤ (x8 : Int32).toInt ∧ (x8 : Int32).toInt ≤ 4) from by omega)
            have hfc := fr_c hfc (k := 23) (j := (y4_1 : Int32).toNatClampNeg) (x := x8) (by decide)
            refine lv_aload_n hx hb dX12_back_57 rfl (lv_at hl 1 rfl) ?_
            refine mget_24 hx hb hts (fun _ h => List.mem_cons_of_mem _ (List.mem_append_right _ h)) hown hK hP (hts (.fieldLink RX12 53 "TalePlayModel" "nAt" "[I") (by decide +kernel)) dX12_back_58 ?_
            refine lv_iload_n hx hb dX12_back_61 rfl (lv_at hl 0 rfl) ?_
            refine lv_aload_n hx hb dX12_back_62 rfl (lv_at hl 1 rfl) ?_
            refine mget_30 hx hb hts (fun _ h => List.mem_cons_of_mem _ (List.mem_append_right _ h)) hown hK hP (hts (.fieldLink RX12 68 "TalePlayModel" "wasAt" "[I") (by decide +kernel)) dX12_back_63 ?_
            refine lv_bipush (v := 30) hx hb dX12_back_66 (by decide) ?_
            refine lv_aload_n hx hb dX12_back_68 rfl (lv_at hl 1 rfl) ?_
            refine mget_27 (v := (i4 27)) rfl hx hb hts (fun _ h => List.mem_cons_of_mem _ (List.mem_append_right _ h)) hown hK hP (hts (.fieldLink RX12 291 "TalePlayModel" "turns" "I") (by decide +kernel)) dX12_back_69 ?_
            refine lv_imul hx hb dX12_back_72 ?_
            refine lv_topi (fun x9 ex9 => ?_)
            have tx9 := ti_mul (a := 30) (b := (i4 27).toInt) ex9 (by decide) rfl (by omega) (by omega)
            refine lv_iload_n hx hb dX12_back_73 rfl (lv_at hl 0 rfl) ?_
            refine lv_iadd hx hb dX12_back_74 ?_
            refine lv_topi (fun x10 ex10 => ?_)
            have tx10 := ti_add (a := (30 * (i4 27).toInt)) (b := y4_1.toInt) ex10 tx9 rfl (by omega) (by omega)
            refine mld_30 hx hb hK hP (vp_in_iff.mpr (by have h9 : x10.toInt = ((30 * (i4 27).toInt) + y4_1.toInt) := tx10; omega)) dX12_back_75 (fun x11 ex11 => ?_)
            have rx11 : x11.toInt = -9 ∨ (0 ≤ x11.toInt ∧ x11.toInt ≤ 29) := by rw [ex11]; exact hI.2 30 _
            refine mst_24 hx hb hK hP hD hS (vp_in_iff.mpr (by have h9 : y4_1.toInt = y4_1.toInt := rfl; omega)) dX12_back_76 (fun H locs hP hD hS => ?_)
            have hI := mInv_c hI (k := 24) (j := (y4_1 : Int32).toNatClampNeg) (x := x11) (show (x11 : Int32).toInt = -9 ∨ (0 ≤ (x11 : Int32).toInt ∧ (x11 : Int32).toInt ≤ 29) from by omega)
            have hfc := fr_c hfc (k := 24) (j := (y4_1 : Int32).toNatClampNeg) (x := x11) (by decide)
            refine lv_aload_n hx hb dX12_back_77 rfl (lv_at hl 1 rfl) ?_
            refine mget_25 hx hb hts (fun _ h => List.mem_cons_of_mem _ (List.mem_append_right _ h)) hown hK hP (hts (.fieldLink RX12 56 "TalePlayModel" "nOpen" "[Z") (by decide +kernel)) dX12_back_78 ?_
            refine lv_iload_n hx hb dX12_back_81 rfl (lv_at hl 0 rfl) ?_
            refine lv_aload_n hx hb dX12_back_82 rfl (lv_at hl 1 rfl) ?_
            refine mget_31 hx hb hts (fun _ h => List.mem_cons_of_mem _ (List.mem_append_right _ h)) hown hK hP (hts (.fieldLink RX12 71 "TalePlayModel" "wasOpen" "[Z") (by decide +kernel)) dX12_back_83 ?_
            refine lv_bipush (v := 30) hx hb dX12_back_86 (by decide) ?_
            refine lv_aload_n hx hb dX12_back_88 rfl (lv_at hl 1 rfl) ?_
            refine mget_27 (v := (i4 27)) rfl hx hb hts (fun _ h => List.mem_cons_of_mem _ (List.mem_append_right _ h)) hown hK hP (hts (.fieldLink RX12 291 "TalePlayModel" "turns" "I") (by decide +kernel)) dX12_back_89 ?_
            refine lv_imul hx hb dX12_back_92 ?_
            refine lv_topi (fun x12 ex12 => ?_)
            have tx12 := ti_mul (a := 30) (b := (i4 27).toInt) ex12 (by decide) rfl (by omega) (by omega)
            refine lv_iload_n hx hb dX12_back_93 rfl (lv_at hl 0 rfl) ?_
            refine lv_iadd hx hb dX12_back_94 ?_
            refine lv_topi (fun x13 ex13 => ?_)
            have tx13 := ti_add (a := (30 * (i4 27).toInt)) (b := y4_1.toInt) ex13 tx12 rfl (by omega) (by omega)
            refine mld_31 hx hb hK hP (vp_in_iff.mpr (by have h9 : x13.toInt = ((30 * (i4 27).toInt) + y4_1.toInt) := tx13; omega)) dX12_back_95 (fun x14 ex14 => ?_)
            have rx14 : 0 ≤ x14.toInt ∧ x14.toInt ≤ 1 := by rw [ex14]; exact hI.2 31 _
            refine mst_25 hx hb hK hP hD hS (vp_in_iff.mpr (by have h9 : y4_1.toInt = y4_1.toInt := rfl; omega)) (nb_z (show 0 ≤ (x14 : Int32).toInt ∧ (x14 : Int32).toInt ≤ 1 from by omega)) dX12_back_96 (fun H locs hP hD hS => ?_)
            have hI := mInv_c hI (k := 25) (j := (y4_1 : Int32).toNatClampNeg) (x := x14) (show 0 ≤ (x14 : Int32).toInt ∧ (x14 : Int32).toInt ≤ 1 from by omega)
            have hfc := fr_c hfc (k := 25) (j := (y4_1 : Int32).toNatClampNeg) (x := x14) (by decide)
            refine lv_aload_n hx hb dX12_back_97 rfl (lv_at hl 1 rfl) ?_
            refine mget_26 hx hb hts (fun _ h => List.mem_cons_of_mem _ (List.mem_append_right _ h)) hown hK hP (hts (.fieldLink RX12 59 "TalePlayModel" "nLocked" "[Z") (by decide +kernel)) dX12_back_98 ?_
            refine lv_iload_n hx hb dX12_back_101 rfl (lv_at hl 0 rfl) ?_
            refine lv_aload_n hx hb dX12_back_102 rfl (lv_at hl 1 rfl) ?_
            refine mget_32 hx hb hts (fun _ h => List.mem_cons_of_mem _ (List.mem_append_right _ h)) hown hK hP (hts (.fieldLink RX12 74 "TalePlayModel" "wasLocked" "[Z") (by decide +kernel)) dX12_back_103 ?_
            refine lv_bipush (v := 30) hx hb dX12_back_106 (by decide) ?_
            refine lv_aload_n hx hb dX12_back_108 rfl (lv_at hl 1 rfl) ?_
            refine mget_27 (v := (i4 27)) rfl hx hb hts (fun _ h => List.mem_cons_of_mem _ (List.mem_append_right _ h)) hown hK hP (hts (.fieldLink RX12 291 "TalePlayModel" "turns" "I") (by decide +kernel)) dX12_back_109 ?_
            refine lv_imul hx hb dX12_back_112 ?_
            refine lv_topi (fun x15 ex15 => ?_)
            have tx15 := ti_mul (a := 30) (b := (i4 27).toInt) ex15 (by decide) rfl (by omega) (by omega)
            refine lv_iload_n hx hb dX12_back_113 rfl (lv_at hl 0 rfl) ?_
            refine lv_iadd hx hb dX12_back_114 ?_
            refine lv_topi (fun x16 ex16 => ?_)
            have tx16 := ti_add (a := (30 * (i4 27).toInt)) (b := y4_1.toInt) ex16 tx15 rfl (by omega) (by omega)
            refine mld_32 hx hb hK hP (vp_in_iff.mpr (by have h9 : x16.toInt = ((30 * (i4 27).toInt) + y4_1.toInt) := tx16; omega)) dX12_back_115 (fun x17 ex17 => ?_)
            have rx17 : 0 ≤ x17.toInt ∧ x17.toInt ≤ 1 := by rw [ex17]; exact hI.2 32 _
            refine mst_26 hx hb hK hP hD hS (vp_in_iff.mpr (by have h9 : y4_1.toInt = y4_1.toInt := rfl; omega)) (nb_z (show 0 ≤ (x17 : Int32).toInt ∧ (x17 : Int32).toInt ≤ 1 from by omega)) dX12_back_116 (fun H locs hP hD hS => ?_)
            have hI := mInv_c hI (k := 26) (j := (y4_1 : Int32).toNatClampNeg) (x := x17) (show 0 ≤ (x17 : Int32).toInt ∧ (x17 : Int32).toInt ≤ 1 from by omega)
            have hfc := fr_c hfc (k := 26) (j := (y4_1 : Int32).toNatClampNeg) (x := x17) (by decide)
            obtain ⟨x18, ex18⟩ : ∃ y : Int32, y = y4_1 + 1 := ⟨_, rfl⟩
            have tx18 := ti_add (a := y4_1.toInt) (b := 1) ex18 rfl (by decide) (by omega) (by omega)
            refine lv_iinc (v := x18) (lv' := [(1, .int x18), (0, .ref o)]) hx hb dX12_back_117 hl (k := 0) rfl (by rw [ex18]; rfl) (by decide) rfl (fun ls hl => ?_)
            refine lv_goto (tgt := 31) hx hb dX12_back_120 (by decide) ?_
            exact ih4 i4 q4 (updA (updA (updA (updA c4 23 (y4_1 : Int32).toNatClampNeg x8) 24 (y4_1 : Int32).toNatClampNeg x11) 25 (y4_1 : Int32).toNatClampNeg x14) 26 (y4_1 : Int32).toNatClampNeg x17) d4 x18 hI (fr_w hfi (by decide)) (fr_w hfc (by decide)) (show 0 ≤ x18.toInt ∧ x18.toInt ≤ 30 from by have h50 : x18.toInt = (y4_1.toInt + 1) := tx18; omega) (show GB ((updA (updA (updA (updA c4 23 (y4_1 : Int32).toNatClampNeg x8) 24 (y4_1 : Int32).toNatClampNeg x11) 25 (y4_1 : Int32).toNatClampNeg x14) 26 (y4_1 : Int32).toNatClampNeg x17) 23) ((updA (updA (updA (updA c4 23 (y4_1 : Int32).toNatClampNeg x8) 24 (y4_1 : Int32).toNatClampNeg x11) 25 (y4_1 : Int32).toNatClampNeg x14) 26 (y4_1 : Int32).toNatClampNeg x17) 24) (c 29) (c 30) x3.toInt.toNat x18.toInt from GB_a (T := x3) (a := x7) (b := x10) hz4_0 (by omega) (by omega) tx18 (by have h9 := tx7; omega) (by have h9 := tx10; omega) (Eq.trans (show x8 = c4 29 _ from ex8) (congrFun (hfc0 29 (by decide)) _)) (Eq.trans (show x11 = c4 30 _ from ex11) (congrFun (hfc0 30 (by decide)) _))) (show ((i4 27) : Int32).toInt = x3.toInt from by have h50 : x18.toInt = (y4_1.toInt + 1) := tx18; omega) (by have h50 : x18.toInt = (y4_1.toInt + 1) := tx18; omega) _ _ _ hP hD hS (lv_sub hl [0, 1] rfl)
      exact lp4 _ (upd i 27 x3) q c d (0 : Int32) hI (fr_w hfi (by decide)) (fr_w hfc (by decide)) (show 0 ≤ (0 : Int32).toInt ∧ (0 : Int32).toInt ≤ 30 from by have h50 : (0 : Int32).toInt = 0 := (by decide); have h60 : x3.toInt = ((i 27).toInt - 1) := tx3; omega) (show GB (c 23) (c 24) (c 29) (c 30) x3.toInt.toNat (0 : Int32).toInt from GB_0 (by decide)) (show (x3 : Int32).toInt = x3.toInt from by have h50 : (0 : Int32).toInt = 0 := (by decide); have h60 : x3.toInt = ((i 27).toInt - 1) := tx3; omega) (Nat.lt_succ_self _) _ _ _ hP hD hS (lv_sub hl [0, 1] rfl)
    · have f2 := (ti_eq (a := (i 27).toInt) (b := 0) rfl (by decide)).mp c2
      refine lv_bipush (v := (-5)) hx hb dX12_back_16 (by decide) ?_
      exact rw_iret (i, q, c, d) hx hb hr hlocks hS (hK.sub (tys' := []) [] rfl) hP hD dX12_back_18 ⟨trivial, hI, fr_w hfi (by decide), fr_w hfc (by decide), (show SJ (c 3) (c 6) (c 9) (c 10) (c 11) (c 13) ((i 2) : Int32).toInt ((i 5) : Int32).toInt ((i 8) : Int32).toInt from hs_S), (show TJ (c 3) (c 6) (c 23) (c 24) (c 29) (c 30) ((i 5) : Int32).toInt ((i 22) : Int32).toInt ((i 27) : Int32).toInt from hs_J)⟩

def wm_X12_told : List Cond := .code yX12_told cX12_told 3 (some .int) :: (([.methodLink RX12 404 yX12_roomOf, .instanceMethod yX12_roomOf, .selects RX12 yX12_roomOf yX12_roomOf, .initialized RX12, .code yX12_roomOf cX12_roomOf 3 (some .int), .methodLink RX12 184 yX12_isOf, .instanceMethod yX12_isOf, .selects RX12 yX12_isOf yX12_isOf, .code yX12_isOf cX12_isOf 4 (some .boolean), .fieldLink RX12 19 "TalePlayModel" "kindOf" "[I", .fieldLink RX12 13 "TalePlayModel" "parentOf" "[I", .fieldLink RX12 50 "TalePlayModel" "nForm" "[I", .fieldLink RX12 53 "TalePlayModel" "nAt" "[I", .methodLink RX12 191 yX12_isShutter, .instanceMethod yX12_isShutter, .selects RX12 yX12_isShutter yX12_isShutter, .code yX12_isShutter cX12_isShutter 2 (some .boolean), .fieldLink RX12 56 "TalePlayModel" "nOpen" "[Z", .fieldLink RX12 59 "TalePlayModel" "nLocked" "[Z", .fieldLink RX12 86 "TalePlayModel" "seen" "[Z", .fieldLink RX12 89 "TalePlayModel" "reached" "[Z"] : List Cond) ++ wsX120)
set_option maxRecDepth 20000 in
theorem gm_X12_told_X12_roomOf : GoodIn wm_X12_told (wsV RX12 404 RX12 yX12_roomOf wm_X12_roomOf) := goodIn_app (goodIn_of _ (by decide +kernel)) (goodIn_r _ [5, 6, 7, 8, 4, 9, 10, 11, 12, 13, 22, 23, 24, 25, 26, 27, 28, 29, 30, 31, 32, 33, 34, 35, 36, 37, 38, 39, 40, 41, 42, 43, 44, 45, 46, 47, 48, 49, 50, 51, 52, 53, 54, 55, 56, 57, 58, 59, 60, 61, 62, 63, 64, 65, 66, 67, 68, 69, 70, 71, 72, 73, 74, 75, 76, 77, 78, 79, 80, 81, 82, 83, 84, 85, 86, 87, 88, 89, 90] (by decide +kernel) (by decide +kernel))
set_option maxRecDepth 20000 in
theorem gm_X12_told_X12_isShutter : GoodIn wm_X12_told (wsV RX12 191 RX12 yX12_isShutter wm_X12_isShutter) := goodIn_app (goodIn_of _ (by decide +kernel)) (goodIn_r _ [17, 6, 7, 8, 4, 9, 10, 11, 22, 23, 24, 25, 26, 27, 28, 29, 30, 31, 32, 33, 34, 35, 36, 37, 38, 39, 40, 41, 42, 43, 44, 45, 46, 47, 48, 49, 50, 51, 52, 53, 54, 55, 56, 57, 58, 59, 60, 61, 62, 63, 64, 65, 66, 67, 68, 69, 70, 71, 72, 73, 74, 75, 76, 77, 78, 79, 80, 81, 82, 83, 84, 85, 86, 87, 88, 89, 90] (by decide +kernel) (by decide +kernel))
set_option maxHeartbeats 4000000 in
set_option maxRecDepth 100000 in
theorem s_X12_told (l : Launch) (D : va_G) (sz : Nat) (o : Nat) (a : Nat → Nat) (t : Nat → ClassId) (i : Nat → Int32) (q : Int64) (c : Nat → Nat → Int32) (d : Nat → Nat → Int64) (w : Int32) (w1 : Int32) (hI : mInv i c) (hw : 0 ≤ w.toInt ∧ w.toInt < (i 5).toInt) (hs_T : TI (i 5).toInt (fun z => Kd (c 3) (c 6) z 0) (i 22).toInt (c 23) (c 24)) : Met l yX12_told wm_X12_told ({ frames := 2, cells := 0, slots := 0, locals := 45 }) (va_Pc [.ref o, .int w, .int w1] (pA D sz (mW o a t i q c d) (mT t))) (va_Qi (fun (r : Int32) (_ : Unit) => True) oA (ro sz)) 0 0 (ro sz) := by
  refine Met.ofW (cc := cX12_told) (maxL := 3) (ret := (some .int)) (by decide) rfl ?_
  intro p e s m args below meth cd s₁ B hml hv
  obtain ⟨rfl, hsz, hP, hK⟩ := hv
  have hx := B.exec
  have hb := B.bytes
  have hr := B.returns
  have hts := atoms_spec (ws := wm_X12_told) B.pre
  have hown : s.vm.findClass RX12 = some m.cls := findClass_of_methodNamed B.named
  have hlocks := B.notSynchronized
  subst hsz
  have hA : ∀ q : Nat, s.heap.size ≤ q → ro s.heap.size q := fun _ h => h
  have hS : va_S (ro s.heap.size) s.heap s.heap [] := va_S.rf
  have hl := lv_entry ([.ref o, .int w, .int w1]) (n := 3) (Nat.le_of_ble_eq_true rfl)
  rw [lg_entry_eq]
  generalize (lg_sl ([.ref o, .int w, .int w1]) ++ List.replicate (3 - (lg_sl ([.ref o, .int w, .int w1])).length) Slot.unset).toArray = ls at hl ⊢
  have hl : lv_has ls 3 [(0, .ref o), (1, .int w), (2, .int w1)] := hl
  have rb5_i : 0 ≤ (i 5).toInt ∧ (i 5).toInt ≤ 30 := hI.1 5
  refine lv_iload_n hx hb dX12_told_0 rfl (lv_at hl 2 rfl) ?_
  rcases (show (w1.toInt < 0 ∨ 5 < w1.toInt) ∨ w1.toInt = 0 ∨ w1.toInt = 1 ∨ w1.toInt = 2 ∨ w1.toInt = 3 ∨ w1.toInt = 4 ∨ w1.toInt = 5 by omega) with f1 | f1 | f1 | f1 | f1 | f1 | f1
  · refine lv_tableOut (tgt := 140) hx hb dX12_told_1 f1 (by decide) ?_
    refine lv_aload_n hx hb dX12_told_140 rfl (lv_at hl 0 rfl) ?_
    refine lv_iload_n hx hb dX12_told_141 rfl (lv_at hl 1 rfl) ?_
    have rb22_i : (i 22).toInt = -9 ∨ (0 ≤ (i 22).toInt ∧ (i 22).toInt ≤ 29) := hI.1 22
    refine ro_calli (va_runV (As := [.int w]) (rest := []) ⟨hx, hb, hml, hown, hts⟩ (s_X12_roomOf l D s.heap.size o a t i q c d w hI (show 0 ≤ w.toInt ∧ w.toInt < ((i 5) : Int32).toInt from by omega) hs_T) (cwV 1 hts gm_X12_told_X12_roomOf rfl rfl rfl (by decide +kernel) ⟨Nat.le_of_ble_eq_true rfl, Nat.le_of_ble_eq_true rfl⟩) (pA_V hK hP (ci := 12) (q0 := 0) rfl rfl) rfl rfl hl.1 rfl (lv_room (Nat.le_of_ble_eq_true rfl)) dX12_told_142 ⟨Nat.le_of_ble_eq_true rfl, Nat.le_of_ble_eq_true rfl⟩) hS hA hP (fun r2 u2 H locs hw2 hP hS => ?_)
    have hw2 : (r2.toInt = -9 ∨ (0 ≤ r2.toInt ∧ r2.toInt ≤ 29)) := hw2
    exact ro_iret hx hb hr hlocks hS dX12_told_145 trivial
  · refine lv_tableIn (off := 39) (tgt := 40) hx hb dX12_told_1 (by omega) (by omega) (by rw [f1]; rfl) (by decide) ?_
    refine lv_aload_n hx hb dX12_told_40 rfl (lv_at hl 0 rfl) ?_
    refine mget_23 hx hb hts (fun _ h => List.mem_cons_of_mem _ (List.mem_append_right _ h)) hown hK hP (hts (.fieldLink RX12 50 "TalePlayModel" "nForm" "[I") (by decide +kernel)) dX12_told_41 ?_
    refine lv_iload_n hx hb dX12_told_44 rfl (lv_at hl 1 rfl) ?_
    refine mld_23 hx hb hK hP (vp_in_iff.mpr (by have h9 : w.toInt = w.toInt := rfl; omega)) dX12_told_45 (fun x3 ex3 => ?_)
    have rx3 : x3.toInt = -9 ∨ (0 ≤ x3.toInt ∧ x3.toInt ≤ 4) := by rw [ex3]; exact hI.2 23 _
    exact ro_iret hx hb hr hlocks hS dX12_told_46 trivial
  · refine lv_tableIn (off := 46) (tgt := 47) hx hb dX12_told_1 (by omega) (by omega) (by rw [f1]; rfl) (by decide) ?_
    refine lv_aload_n hx hb dX12_told_47 rfl (lv_at hl 0 rfl) ?_
    refine mget_24 hx hb hts (fun _ h => List.mem_cons_of_mem _ (List.mem_append_right _ h)) hown hK hP (hts (.fieldLink RX12 53 "TalePlayModel" "nAt" "[I") (by decide +kernel)) dX12_told_48 ?_
    refine lv_iload_n hx hb dX12_told_51 rfl (lv_at hl 1 rfl) ?_
    refine mld_24 hx hb hK hP (vp_in_iff.mpr (by have h9 : w.toInt = w.toInt := rfl; omega)) dX12_told_52 (fun x4 ex4 => ?_)
    have rx4 : x4.toInt = -9 ∨ (0 ≤ x4.toInt ∧ x4.toInt ≤ 29) := by rw [ex4]; exact hI.2 24 _
    exact ro_iret hx hb hr hlocks hS dX12_told_53 trivial
  · refine lv_tableIn (off := 53) (tgt := 54) hx hb dX12_told_1 (by omega) (by omega) (by rw [f1]; rfl) (by decide) ?_
    refine lv_aload_n hx hb dX12_told_54 rfl (lv_at hl 0 rfl) ?_
    refine lv_iload_n hx hb dX12_told_55 rfl (lv_at hl 1 rfl) ?_
    refine ro_calli (va_runV (As := [.int w]) (rest := []) ⟨hx, hb, hml, hown, hts⟩ (s_X12_isShutter l D s.heap.size o a t i q c d w hI (show 0 ≤ w.toInt ∧ w.toInt ≤ 29 from by omega)) (cwV 1 hts gm_X12_told_X12_isShutter rfl rfl rfl (by decide +kernel) ⟨Nat.le_of_ble_eq_true rfl, Nat.le_of_ble_eq_true rfl⟩) (pA_V hK hP (ci := 12) (q0 := 0) rfl rfl) rfl rfl hl.1 rfl (lv_room (Nat.le_of_ble_eq_true rfl)) dX12_told_56 ⟨Nat.le_of_ble_eq_true rfl, Nat.le_of_ble_eq_true rfl⟩) hS hA hP (fun r5 u5 H locs hw5 hP hS => ?_)
    have hw5 : (0 ≤ r5.toInt ∧ r5.toInt ≤ 1) := hw5
    refine lv_if_eq (tgt := 79) hx hb dX12_told_59 (by decide) (fun c6 => ?_) (fun c6 => ?_)
    · have f6 := (ti_eq (a := r5.toInt) (b := 0) rfl (by decide)).mp c6
      refine lv_bipush (v := (-9)) hx hb dX12_told_79 (by decide) ?_
      exact ro_iret hx hb hr hlocks hS dX12_told_81 trivial
    · have f6 := mt (ti_eq (a := r5.toInt) (b := 0) rfl (by decide)).mpr c6
      refine lv_aload_n hx hb dX12_told_62 rfl (lv_at hl 0 rfl) ?_
      refine mget_25 hx hb hts (fun _ h => List.mem_cons_of_mem _ (List.mem_append_right _ h)) hown hK hP (hts (.fieldLink RX12 56 "TalePlayModel" "nOpen" "[Z") (by decide +kernel)) dX12_told_63 ?_
      refine lv_iload_n hx hb dX12_told_66 rfl (lv_at hl 1 rfl) ?_
      refine mld_25 hx hb hK hP (vp_in_iff.mpr (by have h9 : w.toInt = w.toInt := rfl; omega)) dX12_told_67 (fun x7 ex7 => ?_)
      have rx7 : 0 ≤ x7.toInt ∧ x7.toInt ≤ 1 := by rw [ex7]; exact hI.2 25 _
      refine lv_if_eq (tgt := 75) hx hb dX12_told_68 (by decide) (fun c8 => ?_) (fun c8 => ?_)
      · have f8 := (ti_eq (a := x7.toInt) (b := 0) rfl (by decide)).mp c8
        refine lv_iconst (v := 0) hx hb dX12_told_75 (by decide) ?_
        refine lv_goto (tgt := 81) hx hb dX12_told_76 (by decide) ?_
        exact ro_iret hx hb hr hlocks hS dX12_told_81 trivial
      · have f8 := mt (ti_eq (a := x7.toInt) (b := 0) rfl (by decide)).mpr c8
        refine lv_iconst (v := 1) hx hb dX12_told_71 (by decide) ?_
        refine lv_goto (tgt := 81) hx hb dX12_told_72 (by decide) ?_
        exact ro_iret hx hb hr hlocks hS dX12_told_81 trivial
  · refine lv_tableIn (off := 81) (tgt := 82) hx hb dX12_told_1 (by omega) (by omega) (by rw [f1]; rfl) (by decide) ?_
    refine lv_aload_n hx hb dX12_told_82 rfl (lv_at hl 0 rfl) ?_
    refine lv_iload_n hx hb dX12_told_83 rfl (lv_at hl 1 rfl) ?_
    refine ro_calli (va_runV (As := [.int w]) (rest := []) ⟨hx, hb, hml, hown, hts⟩ (s_X12_isShutter l D s.heap.size o a t i q c d w hI (show 0 ≤ w.toInt ∧ w.toInt ≤ 29 from by omega)) (cwV 1 hts gm_X12_told_X12_isShutter rfl rfl rfl (by decide +kernel) ⟨Nat.le_of_ble_eq_true rfl, Nat.le_of_ble_eq_true rfl⟩) (pA_V hK hP (ci := 12) (q0 := 0) rfl rfl) rfl rfl hl.1 rfl (lv_room (Nat.le_of_ble_eq_true rfl)) dX12_told_84 ⟨Nat.le_of_ble_eq_true rfl, Nat.le_of_ble_eq_true rfl⟩) hS hA hP (fun r9 u9 H locs hw9 hP hS => ?_)
    have hw9 : (0 ≤ r9.toInt ∧ r9.toInt ≤ 1) := hw9
    refine lv_if_eq (tgt := 107) hx hb dX12_told_87 (by decide) (fun c10 => ?_) (fun c10 => ?_)
    · have f10 := (ti_eq (a := r9.toInt) (b := 0) rfl (by decide)).mp c10
      refine lv_bipush (v := (-9)) hx hb dX12_told_107 (by decide) ?_
      exact ro_iret hx hb hr hlocks hS dX12_told_109 trivial
    · have f10 := mt (ti_eq (a := r9.toInt) (b := 0) rfl (by decide)).mpr c10
      refine lv_aload_n hx hb dX12_told_90 rfl (lv_at hl 0 rfl) ?_
      refine mget_26 hx hb hts (fun _ h => List.mem_cons_of_mem _ (List.mem_append_right _ h)) hown hK hP (hts (.fieldLink RX12 59 "TalePlayModel" "nLocked" "[Z") (by decide +kernel)) dX12_told_91 ?_
      refine lv_iload_n hx hb dX12_told_94 rfl (lv_at hl 1 rfl) ?_
      refine mld_26 hx hb hK hP (vp_in_iff.mpr (by have h9 : w.toInt = w.toInt := rfl; omega)) dX12_told_95 (fun x11 ex11 => ?_)
      have rx11 : 0 ≤ x11.toInt ∧ x11.toInt ≤ 1 := by rw [ex11]; exact hI.2 26 _
      refine lv_if_eq (tgt := 103) hx hb dX12_told_96 (by decide) (fun c12 => ?_) (fun c12 => ?_)
      · have f12 := (ti_eq (a := x11.toInt) (b := 0) rfl (by decide)).mp c12
        refine lv_iconst (v := 0) hx hb dX12_told_103 (by decide) ?_
        refine lv_goto (tgt := 109) hx hb dX12_told_104 (by decide) ?_
        exact ro_iret hx hb hr hlocks hS dX12_told_109 trivial
      · have f12 := mt (ti_eq (a := x11.toInt) (b := 0) rfl (by decide)).mpr c12
        refine lv_iconst (v := 1) hx hb dX12_told_99 (by decide) ?_
        refine lv_goto (tgt := 109) hx hb dX12_told_100 (by decide) ?_
        exact ro_iret hx hb hr hlocks hS dX12_told_109 trivial
  · refine lv_tableIn (off := 109) (tgt := 110) hx hb dX12_told_1 (by omega) (by omega) (by rw [f1]; rfl) (by decide) ?_
    refine lv_aload_n hx hb dX12_told_110 rfl (lv_at hl 0 rfl) ?_
    refine mget_43 hx hb hts (fun _ h => List.mem_cons_of_mem _ (List.mem_append_right _ h)) hown hK hP (hts (.fieldLink RX12 86 "TalePlayModel" "seen" "[Z") (by decide +kernel)) dX12_told_111 ?_
    refine lv_iload_n hx hb dX12_told_114 rfl (lv_at hl 1 rfl) ?_
    refine mld_43 hx hb hK hP (vp_in_iff.mpr (by have h9 : w.toInt = w.toInt := rfl; omega)) dX12_told_115 (fun x13 ex13 => ?_)
    have rx13 : 0 ≤ x13.toInt ∧ x13.toInt ≤ 1 := by rw [ex13]; exact hI.2 43 _
    refine lv_if_eq (tgt := 123) hx hb dX12_told_116 (by decide) (fun c14 => ?_) (fun c14 => ?_)
    · have f14 := (ti_eq (a := x13.toInt) (b := 0) rfl (by decide)).mp c14
      refine lv_iconst (v := 0) hx hb dX12_told_123 (by decide) ?_
      exact ro_iret hx hb hr hlocks hS dX12_told_124 trivial
    · have f14 := mt (ti_eq (a := x13.toInt) (b := 0) rfl (by decide)).mpr c14
      refine lv_iconst (v := 1) hx hb dX12_told_119 (by decide) ?_
      refine lv_goto (tgt := 124) hx hb dX12_told_120 (by decide) ?_
      exact ro_iret hx hb hr hlocks hS dX12_told_124 trivial
  · refine lv_tableIn (off := 124) (tgt := 125) hx hb dX12_told_1 (by omega) (by omega) (by rw [f1]; rfl) (by decide) ?_
    refine lv_aload_n hx hb dX12_told_125 rfl (lv_at hl 0 rfl) ?_
    refine mget_44 hx hb hts (fun _ h => List.mem_cons_of_mem _ (List.mem_append_right _ h)) hown hK hP (hts (.fieldLink RX12 89 "TalePlayModel" "reached" "[Z") (by decide +kernel)) dX12_told_126 ?_
    refine lv_iload_n hx hb dX12_told_129 rfl (lv_at hl 1 rfl) ?_
    refine mld_44 hx hb hK hP (vp_in_iff.mpr (by have h9 : w.toInt = w.toInt := rfl; omega)) dX12_told_130 (fun x15 ex15 => ?_)
    have rx15 : 0 ≤ x15.toInt ∧ x15.toInt ≤ 1 := by rw [ex15]; exact hI.2 44 _
    refine lv_if_eq (tgt := 138) hx hb dX12_told_131 (by decide) (fun c16 => ?_) (fun c16 => ?_)
    · have f16 := (ti_eq (a := x15.toInt) (b := 0) rfl (by decide)).mp c16
      refine lv_iconst (v := 0) hx hb dX12_told_138 (by decide) ?_
      exact ro_iret hx hb hr hlocks hS dX12_told_139 trivial
    · have f16 := mt (ti_eq (a := x15.toInt) (b := 0) rfl (by decide)).mpr c16
      refine lv_iconst (v := 1) hx hb dX12_told_134 (by decide) ?_
      refine lv_goto (tgt := 139) hx hb dX12_told_135 (by decide) ?_
      exact ro_iret hx hb hr hlocks hS dX12_told_139 trivial

def wm_X12_now : List Cond := .code yX12_now cX12_now 3 (some .int) :: (([.methodLink RX12 180 yX12_isObject, .instanceMethod yX12_isObject, .selects RX12 yX12_isObject yX12_isObject, .initialized RX12, .code yX12_isObject cX12_isObject 2 (some .boolean), .fieldLink RX12 177 "TalePlayModel" "objects" "I", .methodLink RX12 166 yX12_in, .static yX12_in, .code yX12_in cX12_in 6 (some .boolean), .constantLong RX12 164 (6), .fieldLink RX12 155 "TalePlayModel" "player" "I", .methodLink RX12 392 yX12_lookAtKinds, .instanceMethod yX12_lookAtKinds, .selects RX12 yX12_lookAtKinds yX12_lookAtKinds, .code yX12_lookAtKinds cX12_lookAtKinds 2 none, .fieldLink RX12 92 "TalePlayModel" "lit" "[Z", .methodLink RX12 256 yX12_saidFlag, .instanceMethod yX12_saidFlag, .selects RX12 yX12_saidFlag yX12_saidFlag, .code yX12_saidFlag cX12_saidFlag 4 (some .int), .methodLink RX12 216 yX12_saidSo, .instanceMethod yX12_saidSo, .selects RX12 yX12_saidSo yX12_saidSo, .code yX12_saidSo cX12_saidSo 6 (some .int), .fieldLink RX12 202 "TalePlayModel" "sentences" "I", .fieldLink RX12 37 "TalePlayModel" "isSaid" "[Z", .fieldLink RX12 25 "TalePlayModel" "form" "[I", .fieldLink RX12 28 "TalePlayModel" "left" "[I", .fieldLink RX12 31 "TalePlayModel" "middle" "[I", .fieldLink RX12 34 "TalePlayModel" "right" "[I", .fieldLink RX12 19 "TalePlayModel" "kindOf" "[I", .methodLink RX12 184 yX12_isOf, .instanceMethod yX12_isOf, .selects RX12 yX12_isOf yX12_isOf, .code yX12_isOf cX12_isOf 4 (some .boolean), .fieldLink RX12 13 "TalePlayModel" "parentOf" "[I", .fieldLink RX12 16 "TalePlayModel" "defaults" "[I", .fieldLink RX12 98 "TalePlayModel" "isBox" "[Z", .fieldLink RX12 101 "TalePlayModel" "isRoom" "[Z", .fieldLink RX12 104 "TalePlayModel" "isDoor" "[Z", .fieldLink RX12 95 "TalePlayModel" "glass" "[Z", .methodLink RX12 395 yX12_lookAround, .instanceMethod yX12_lookAround, .selects RX12 yX12_lookAround yX12_lookAround, .code yX12_lookAround cX12_lookAround 3 none, .methodLink RX12 331 yX12_shellOf, .instanceMethod yX12_shellOf, .selects RX12 yX12_shellOf yX12_shellOf, .code yX12_shellOf cX12_shellOf 3 (some .int), .fieldLink RX12 53 "TalePlayModel" "nAt" "[I", .methodLink RX12 324 yX12_shuts, .instanceMethod yX12_shuts, .selects RX12 yX12_shuts yX12_shuts, .code yX12_shuts cX12_shuts 3 (some .boolean), .fieldLink RX12 56 "TalePlayModel" "nOpen" "[Z", .fieldLink RX12 335 "TalePlayModel" "shell" "I", .fieldLink RX12 338 "TalePlayModel" "handShell" "I", .fieldLink RX12 341 "TalePlayModel" "isLight" "Z", .fieldLink RX12 86 "TalePlayModel" "seen" "[Z", .fieldLink RX12 89 "TalePlayModel" "reached" "[Z", .methodLink RX12 344 yX12_isInView, .instanceMethod yX12_isInView, .selects RX12 yX12_isInView yX12_isInView, .code yX12_isInView cX12_isInView 5 (some .boolean), .fieldLink RX12 50 "TalePlayModel" "nForm" "[I", .methodLink RX12 328 yX12_isSide, .instanceMethod yX12_isSide, .selects RX12 yX12_isSide yX12_isSide, .code yX12_isSide cX12_isSide 4 (some .boolean), .methodLink RX12 407 yX12_told, .instanceMethod yX12_told, .selects RX12 yX12_told yX12_told, .code yX12_told cX12_told 3 (some .int), .methodLink RX12 404 yX12_roomOf, .instanceMethod yX12_roomOf, .selects RX12 yX12_roomOf yX12_roomOf, .code yX12_roomOf cX12_roomOf 3 (some .int), .methodLink RX12 191 yX12_isShutter, .instanceMethod yX12_isShutter, .selects RX12 yX12_isShutter yX12_isShutter, .code yX12_isShutter cX12_isShutter 2 (some .boolean), .fieldLink RX12 59 "TalePlayModel" "nLocked" "[Z"] : List Cond) ++ wsX120)
set_option maxRecDepth 20000 in
theorem gm_X12_now_X12_isObject : GoodIn wm_X12_now (wsV RX12 180 RX12 yX12_isObject wm_X12_isObject) := goodIn_app (goodIn_of _ (by decide +kernel)) (goodIn_r _ [5, 6, 7, 8, 4, 9, 83, 84, 85, 86, 87, 88, 89, 90, 91, 92, 93, 94, 95, 96, 97, 98, 99, 100, 101, 102, 103, 104, 105, 106, 107, 108, 109, 110, 111, 112, 113, 114, 115, 116, 117, 118, 119, 120, 121, 122, 123, 124, 125, 126, 127, 128, 129, 130, 131, 132, 133, 134, 135, 136, 137, 138, 139, 140, 141, 142, 143, 144, 145, 146, 147, 148, 149, 150, 151] (by decide +kernel) (by decide +kernel))
set_option maxRecDepth 20000 in
theorem gm_X12_now_X12_in : GoodIn wm_X12_now (va_wsS RX12 166 yX12_in wm_X12_in) := goodIn_app (goodIn_of _ (by decide +kernel)) (goodIn_r _ [9] (by decide +kernel) (by decide +kernel))
set_option maxRecDepth 20000 in
theorem gm_X12_now_X12_lookAtKinds : GoodIn wm_X12_now (wsV RX12 392 RX12 yX12_lookAtKinds wm_X12_lookAtKinds) := goodIn_app (goodIn_of _ (by decide +kernel)) (goodIn_r _ [15, 6, 16, 17, 18, 19, 4, 20, 21, 22, 23, 24, 25, 26, 27, 28, 29, 30, 31, 32, 33, 34, 35, 36, 37, 38, 39, 40, 41, 83, 84, 85, 86, 87, 88, 89, 90, 91, 92, 93, 94, 95, 96, 97, 98, 99, 100, 101, 102, 103, 104, 105, 106, 107, 108, 109, 110, 111, 112, 113, 114, 115, 116, 117, 118, 119, 120, 121, 122, 123, 124, 125, 126, 127, 128, 129, 130, 131, 132, 133, 134, 135, 136, 137, 138, 139, 140, 141, 142, 143, 144, 145, 146, 147, 148, 149, 150, 151] (by decide +kernel) (by decide +kernel))
set_option maxRecDepth 20000 in
theorem gm_X12_now_X12_lookAround : GoodIn wm_X12_now (wsV RX12 395 RX12 yX12_lookAround wm_X12_lookAround) := goodIn_app (goodIn_of _ (by decide +kernel)) (goodIn_r _ [45, 46, 47, 48, 4, 49, 50, 11, 39, 51, 52, 53, 54, 38, 55, 41, 56, 57, 58, 6, 59, 60, 61, 62, 63, 64, 40, 65, 66, 67, 68, 69, 25, 26, 27, 29, 28, 16, 83, 84, 85, 86, 87, 88, 89, 90, 91, 92, 93, 94, 95, 96, 97, 98, 99, 100, 101, 102, 103, 104, 105, 106, 107, 108, 109, 110, 111, 112, 113, 114, 115, 116, 117, 118, 119, 120, 121, 122, 123, 124, 125, 126, 127, 128, 129, 130, 131, 132, 133, 134, 135, 136, 137, 138, 139, 140, 141, 142, 143, 144, 145, 146, 147, 148, 149, 150, 151] (by decide +kernel) (by decide +kernel))
set_option maxRecDepth 20000 in
theorem gm_X12_now_X12_told : GoodIn wm_X12_now (wsV RX12 407 RX12 yX12_told wm_X12_told) := goodIn_app (goodIn_of _ (by decide +kernel)) (goodIn_r _ [73, 74, 75, 76, 4, 77, 32, 33, 34, 35, 31, 36, 65, 50, 78, 79, 80, 81, 55, 82, 59, 60, 83, 84, 85, 86, 87, 88, 89, 90, 91, 92, 93, 94, 95, 96, 97, 98, 99, 100, 101, 102, 103, 104, 105, 106, 107, 108, 109, 110, 111, 112, 113, 114, 115, 116, 117, 118, 119, 120, 121, 122, 123, 124, 125, 126, 127, 128, 129, 130, 131, 132, 133, 134, 135, 136, 137, 138, 139, 140, 141, 142, 143, 144, 145, 146, 147, 148, 149, 150, 151] (by decide +kernel) (by decide +kernel))
set_option maxHeartbeats 4000000 in
set_option maxRecDepth 100000 in
theorem s_X12_now (l : Launch) (D : va_G) (sz : Nat) (o : Nat) (a : Nat → Nat) (t : Nat → ClassId) (i : Nat → Int32) (q : Int64) (c : Nat → Nat → Int32) (d : Nat → Nat → Int64) (w : Int32) (w1 : Int32) (hI : mInv i c) (hs_S : SJ (c 3) (c 6) (c 9) (c 10) (c 11) (c 13) (i 2).toInt (i 5).toInt (i 8).toInt) (hs_J : TJ (c 3) (c 6) (c 23) (c 24) (c 29) (c 30) (i 5).toInt (i 22).toInt (i 27).toInt) : Met l yX12_now wm_X12_now ({ frames := 3, cells := 0, slots := 0, locals := 69 }) (va_Pc [.ref o, .int w, .int w1] (pB D sz (mW o a t i q c d) (mT t))) (va_Qi (fun (r : Int32) (u : MS) => True ∧ mInv u.1 u.2.2.1 ∧ (∀ k, k ∉ ([40, 41, 42] : List Nat) → u.1 k = i k) ∧ (∀ k, k ∉ ([43, 44, 45, 46, 47, 48, 49] : List Nat) → u.2.2.1 k = c k)) (oC D (va_A (mW o a t i q c d) sz) (fun u : MS => mW o a t u.1 u.2.1 u.2.2.1 u.2.2.2) (fun _ => [])) (va_A (mW o a t i q c d) sz)) 0 0 (va_A (mW o a t i q c d) sz) := by
  refine Met.ofW (cc := cX12_now) (maxL := 3) (ret := (some .int)) (by decide) rfl ?_
  intro p e s m args below meth cd s₁ B hml hv
  obtain ⟨rfl, hsz, hP, hK, hD0⟩ := hv
  have hx := B.exec
  have hb := B.bytes
  have hr := B.returns
  have hts := atoms_spec (ws := wm_X12_now) B.pre
  have hown : s.vm.findClass RX12 = some m.cls := findClass_of_methodNamed B.named
  have hlocks := B.notSynchronized
  subst hsz
  have hD := hD0.self (sz := s.heap.size)
  generalize hAe : va_A (mW o a t i q c d) s.heap.size = A at hD ⊢
  have hA : ∀ q : Nat, s.heap.size ≤ q → A q := fun q h => by rw [← hAe]; exact Or.inr h
  have hS : va_S A s.heap s.heap [] := va_S.rf
  have hfi : ∀ k, k ∉ ([] : List Nat) → i k = i k := fun _ _ => rfl
  have hfc : ∀ k, k ∉ ([] : List Nat) → c k = c k := fun _ _ => rfl
  have hl := lv_entry ([.ref o, .int w, .int w1]) (n := 3) (Nat.le_of_ble_eq_true rfl)
  rw [lg_entry_eq]
  generalize (lg_sl ([.ref o, .int w, .int w1]) ++ List.replicate (3 - (lg_sl ([.ref o, .int w, .int w1])).length) Slot.unset).toArray = ls at hl ⊢
  have hl : lv_has ls 3 [(0, .ref o), (1, .int w), (2, .int w1)] := hl
  refine lv_aload_n hx hb dX12_now_0 rfl (lv_at hl 0 rfl) ?_
  refine lv_iload_n hx hb dX12_now_1 rfl (lv_at hl 1 rfl) ?_
  have rb5_i : 0 ≤ (i 5).toInt ∧ (i 5).toInt ≤ 30 := hI.1 5
  refine ro_calli (va_runV (As := [.int w]) (rest := []) ⟨hx, hb, hml, hown, hts⟩ (s_X12_isObject l D s.heap.size o a t i q c d w hI ) (cwV 1 hts gm_X12_now_X12_isObject rfl rfl rfl (by decide +kernel) ⟨Nat.le_of_ble_eq_true rfl, Nat.le_of_ble_eq_true rfl⟩) (pA_V hK hP (ci := 12) (q0 := 0) rfl rfl) rfl rfl hl.1 rfl (lv_room (Nat.le_of_ble_eq_true rfl)) dX12_now_2 ⟨Nat.le_of_ble_eq_true rfl, Nat.le_of_ble_eq_true rfl⟩) hS hA hP (fun r1 u1 H locs hw1 hP hS => ?_)
  have hw1 : r1 = if (0 ≤ w.toInt ∧ w.toInt ≤ (i 5).toInt - 1) then 1 else 0 := hw1
  refine lv_if_eq (tgt := 20) hx hb dX12_now_5 (by decide) (fun c2 => ?_) (fun c2 => ?_)
  · have f2 := fl_f hw1 c2
    refine lv_iconst (v := (-1)) hx hb dX12_now_20 (by decide) ?_
    exact rw_iret (i, q, c, d) hx hb hr hlocks hS (hK.sub (tys' := []) [] rfl) hP hD dX12_now_21 ⟨trivial, hI, fr_w hfi (by decide), fr_w hfc (by decide)⟩
  · have f2 := fl_t hw1 c2
    refine lv_iload_n hx hb dX12_now_8 rfl (lv_at hl 2 rfl) ?_
    refine lv_i2l (v := w1.toInt64) hx hb dX12_now_9 rfl ?_
    refine lv_lconst (v := 0) hx hb dX12_now_10 (by decide) ?_
    refine lv_ldc2 (v := 6) hx hb hown (hts (.constantLong RX12 164 (6)) (by decide +kernel)) dX12_now_11 ?_
    have hPc := hP.sub (ws' := []) [] rfl
    have hKc := hK.sub (tys' := []) [] rfl
    refine ro_calli (va_runS (As := [.long w1.toInt64, .long 0, .long 6]) (rest := []) ⟨hx, hb, hml, hown, hts⟩ (c_X12_in l D H.size w1.toInt64 0 6 w1.toInt 0 6 ((Int32.toInt_toInt64 w1).trans rfl) (by decide) (by decide)) (va_cwS 3 hts gm_X12_now_X12_in rfl rfl rfl (by decide +kernel) ⟨Nat.le_of_ble_eq_true rfl, Nat.le_of_ble_eq_true rfl⟩) (pA_S hKc hPc) rfl rfl hl.1 rfl (lv_room (Nat.le_of_ble_eq_true rfl)) dX12_now_14 ⟨Nat.le_of_ble_eq_true rfl, Nat.le_of_ble_eq_true rfl⟩) hS hA hP (fun r3 u3 H locs hw3 hP hS => ?_)
    have hw3 : r3 = if (0 ≤ w1.toInt ∧ w1.toInt ≤ 6) then 1 else 0 := hw3
    refine lv_if_ne (tgt := 22) hx hb dX12_now_17 (by decide) (fun c4 => ?_) (fun c4 => ?_)
    · have f4 := fl_t hw3 c4
      refine lv_aload_n hx hb dX12_now_22 rfl (lv_at hl 0 rfl) ?_
      refine mget_22 (v := (i 22)) rfl hx hb hts (fun _ h => List.mem_cons_of_mem _ (List.mem_append_right _ h)) hown hK hP (hts (.fieldLink RX12 155 "TalePlayModel" "player" "I") (by decide +kernel)) dX12_now_23 ?_
      have rb22_i : (i 22).toInt = -9 ∨ (0 ≤ (i 22).toInt ∧ (i 22).toInt ≤ 29) := hI.1 22
      refine lv_bipush (v := (-9)) hx hb dX12_now_26 (by decide) ?_
      refine lv_icmp_ne (tgt := 34) hx hb dX12_now_28 (by decide) (fun c5 => ?_) (fun c5 => ?_)
      · have f5 := mt (ti_eq (a := (i 22).toInt) (b := (-9)) rfl (by decide)).mpr c5
        have hs_T : TI (i 5).toInt (fun z => Kd (c 3) (c 6) z 0) (i 22).toInt (c 23) (c 24) := (hs_J (by omega)).2.1
        have hs_P : Kd (c 3) (c 6) (i 22).toInt 5 := (hs_J (by omega)).1
        have hs_G : Acy (gF (c 9) (c 10) (c 11) (c 13) (c 23) (c 24) (i 8).toInt (i 5).toInt (i 22).toInt) := gF_acy hs_S hs_J
        refine lv_aload_n hx hb dX12_now_34 rfl (lv_at hl 0 rfl) ?_
        refine al_callv (va_runV (As := []) (rest := []) ⟨hx, hb, hml, hown, hts⟩ (s_X12_lookAtKinds l D H.size o a t i q c d  hI ) (cwV 0 hts gm_X12_now_X12_lookAtKinds rfl rfl rfl (by decide +kernel) ⟨Nat.le_of_ble_eq_true rfl, Nat.le_of_ble_eq_true rfl⟩) (pB_V hK hP hD (ci := 12) (q0 := 0) rfl rfl) rfl rfl hl.1 rfl (lv_room (Nat.le_of_ble_eq_true rfl)) dX12_now_35 ⟨Nat.le_of_ble_eq_true rfl, Nat.le_of_ble_eq_true rfl⟩) hS hA hP hD (fun u6 H locs hw6 hP hD hS => ?_)
        obtain ⟨i6, q6, c6, d6⟩ := u6
        have hw6 : True ∧ mInv i6 c6 ∧ (∀ k, k ∉ ([] : List Nat) → i6 k = i k) ∧ (∀ k, k ∉ ([45, 46, 47, 48, 49] : List Nat) → c6 k = c k) ∧ (Cc (c 3) (c 6) (c6 47) (c6 48) (c6 49) (i 5).toInt) := hw6
        obtain ⟨hw6, hI, hei6, hec6, hxp6_0⟩ := hw6
        have hxp6_0 : Cc (c 3) (c 6) (c6 47) (c6 48) (c6 49) (i 5).toInt := hxp6_0
        have hfi : ∀ k, k ∉ ([] : List Nat) → i6 k = i k := fr_z hfi hei6 (by decide) (by decide)
        have hfc : ∀ k, k ∉ ([45, 46, 47, 48, 49] : List Nat) → c6 k = c k := fr_z hfc hec6 (by decide) (by decide)
        have hP : va_P D vwCl (mW o a t i6 q6 c6 d6) H := hP
        have hD : va_D A (mW o a t i6 q6 c6 d6) := hD
        have hs_C := hxp6_0
        refine lv_aload_n hx hb dX12_now_38 rfl (lv_at hl 0 rfl) ?_
        have rb5_i6 : 0 ≤ (i6 5).toInt ∧ (i6 5).toInt ≤ 30 := hI.1 5
        have re5_i6 : (i6 5).toInt = (i 5).toInt := congrArg Int32.toInt (hfi 5 (by decide))
        have rb22_i6 : (i6 22).toInt = -9 ∨ (0 ≤ (i6 22).toInt ∧ (i6 22).toInt ≤ 29) := hI.1 22
        have re22_i6 : (i6 22).toInt = (i 22).toInt := congrArg Int32.toInt (hfi 22 (by decide))
        refine al_callv (va_runV (As := []) (rest := []) ⟨hx, hb, hml, hown, hts⟩ (s_X12_lookAround l D H.size o a t i6 q6 c6 d6  hI (by rw [show c6 3 = c 3 from hfc 3 (by decide), show c6 6 = c 6 from hfc 6 (by decide), show c6 23 = c 23 from hfc 23 (by decide), show c6 24 = c 24 from hfc 24 (by decide), show i6 5 = i 5 from hfi 5 (by decide), show i6 22 = i 22 from hfi 22 (by decide)]; exact hs_T) (by rw [show c6 3 = c 3 from hfc 3 (by decide), show c6 6 = c 6 from hfc 6 (by decide), show i6 5 = i 5 from hfi 5 (by decide)]; exact hs_C)) (cwV 0 hts gm_X12_now_X12_lookAround rfl rfl rfl (by decide +kernel) ⟨Nat.le_of_ble_eq_true rfl, Nat.le_of_ble_eq_true rfl⟩) (pB_V hK hP hD (ci := 12) (q0 := 0) rfl rfl) rfl rfl hl.1 rfl (lv_room (Nat.le_of_ble_eq_true rfl)) dX12_now_39 ⟨Nat.le_of_ble_eq_true rfl, Nat.le_of_ble_eq_true rfl⟩) hS hA hP hD (fun u7 H locs hw7 hP hD hS => ?_)
        obtain ⟨i7, q7, c7, d7⟩ := u7
        have hw7 : True ∧ mInv i7 c7 ∧ (∀ k, k ∉ ([40, 41, 42] : List Nat) → i7 k = i6 k) ∧ (∀ k, k ∉ ([43, 44] : List Nat) → c7 k = c6 k) ∧ (RQ (c7 44) (c6 49) (nF (i6 5).toInt (c6 23) (c6 24)) (i6 22).toInt (i6 5).toInt) := hw7
        obtain ⟨hw7, hI, hei7, hec7, hxp7_0⟩ := hw7
        have hxp7_0 : RQ (c7 44) (c6 49) (nF (i 5).toInt (c 23) (c 24)) (i 22).toInt (i 5).toInt := by have h9 := hxp7_0; rw [show c6 23 = c 23 from hfc 23 (by decide), show c6 24 = c 24 from hfc 24 (by decide), show i6 5 = i 5 from hfi 5 (by decide), show i6 22 = i 22 from hfi 22 (by decide)] at h9; exact h9
        have hfi : ∀ k, k ∉ ([40, 41, 42] : List Nat) → i7 k = i k := fr_z hfi hei7 (by decide) (by decide)
        have hfc : ∀ k, k ∉ ([43, 44, 45, 46, 47, 48, 49] : List Nat) → c7 k = c k := fr_z hfc hec7 (by decide) (by decide)
        have hP : va_P D vwCl (mW o a t i7 q7 c7 d7) H := hP
        have hD : va_D A (mW o a t i7 q7 c7 d7) := hD
        have hs_C : Cc (c 3) (c 6) (c7 47) (c7 48) (c7 49) (i 5).toInt := by rw [show c7 47 = c6 47 from hec7 47 (by decide), show c7 48 = c6 48 from hec7 48 (by decide), show c7 49 = c6 49 from hec7 49 (by decide)]; exact hs_C
        refine lv_aload_n hx hb dX12_now_42 rfl (lv_at hl 0 rfl) ?_
        refine lv_iload_n hx hb dX12_now_43 rfl (lv_at hl 1 rfl) ?_
        refine lv_iload_n hx hb dX12_now_44 rfl (lv_at hl 2 rfl) ?_
        have rb5_i7 : 0 ≤ (i7 5).toInt ∧ (i7 5).toInt ≤ 30 := hI.1 5
        have re5_i7 : (i7 5).toInt = (i 5).toInt := congrArg Int32.toInt (hfi 5 (by decide))
        have rb22_i7 : (i7 22).toInt = -9 ∨ (0 ≤ (i7 22).toInt ∧ (i7 22).toInt ≤ 29) := hI.1 22
        have re22_i7 : (i7 22).toInt = (i 22).toInt := congrArg Int32.toInt (hfi 22 (by decide))
        refine ro_calli (va_runV (As := [.int w, .int w1]) (rest := []) ⟨hx, hb, hml, hown, hts⟩ (s_X12_told l D H.size o a t i7 q7 c7 d7 w w1 hI (show 0 ≤ w.toInt ∧ w.toInt < ((i7 5) : Int32).toInt from by omega) (by rw [show c7 3 = c 3 from hfc 3 (by decide), show c7 6 = c 6 from hfc 6 (by decide), show c7 23 = c 23 from hfc 23 (by decide), show c7 24 = c 24 from hfc 24 (by decide), show i7 5 = i 5 from hfi 5 (by decide), show i7 22 = i 22 from hfi 22 (by decide)]; exact hs_T)) (cwV 2 hts gm_X12_now_X12_told rfl rfl rfl (by decide +kernel) ⟨Nat.le_of_ble_eq_true rfl, Nat.le_of_ble_eq_true rfl⟩) (pA_V hK hP (ci := 12) (q0 := 0) rfl rfl) rfl rfl hl.1 rfl (lv_room (Nat.le_of_ble_eq_true rfl)) dX12_now_45 ⟨Nat.le_of_ble_eq_true rfl, Nat.le_of_ble_eq_true rfl⟩) hS hA hP (fun r8 u8 H locs hw8 hP hS => ?_)
        exact rw_iret (i7, q7, c7, d7) hx hb hr hlocks hS (hK.sub (tys' := []) [] rfl) hP hD dX12_now_48 ⟨trivial, hI, fr_w hfi (by decide), fr_w hfc (by decide)⟩
      · have f5 := (ti_eq (a := (i 22).toInt) (b := (-9)) rfl (by decide)).mp c5
        refine lv_bipush (v := (-5)) hx hb dX12_now_31 (by decide) ?_
        exact rw_iret (i, q, c, d) hx hb hr hlocks hS (hK.sub (tys' := []) [] rfl) hP hD dX12_now_33 ⟨trivial, hI, fr_w hfi (by decide), fr_w hfc (by decide)⟩
    · have f4 := fl_f hw3 c4
      refine lv_iconst (v := (-1)) hx hb dX12_now_20 (by decide) ?_
      exact rw_iret (i, q, c, d) hx hb hr hlocks hS (hK.sub (tys' := []) [] rfl) hP hD dX12_now_21 ⟨trivial, hI, fr_w hfi (by decide), fr_w hfc (by decide)⟩

def wm_X12_light : List Cond := .code yX12_light cX12_light 1 (some .int) :: (([.fieldLink RX12 155 "TalePlayModel" "player" "I", .methodLink RX12 392 yX12_lookAtKinds, .instanceMethod yX12_lookAtKinds, .selects RX12 yX12_lookAtKinds yX12_lookAtKinds, .initialized RX12, .code yX12_lookAtKinds cX12_lookAtKinds 2 none, .fieldLink RX12 177 "TalePlayModel" "objects" "I", .fieldLink RX12 92 "TalePlayModel" "lit" "[Z", .methodLink RX12 256 yX12_saidFlag, .instanceMethod yX12_saidFlag, .selects RX12 yX12_saidFlag yX12_saidFlag, .code yX12_saidFlag cX12_saidFlag 4 (some .int), .methodLink RX12 216 yX12_saidSo, .instanceMethod yX12_saidSo, .selects RX12 yX12_saidSo yX12_saidSo, .code yX12_saidSo cX12_saidSo 6 (some .int), .fieldLink RX12 202 "TalePlayModel" "sentences" "I", .fieldLink RX12 37 "TalePlayModel" "isSaid" "[Z", .fieldLink RX12 25 "TalePlayModel" "form" "[I", .fieldLink RX12 28 "TalePlayModel" "left" "[I", .fieldLink RX12 31 "TalePlayModel" "middle" "[I", .fieldLink RX12 34 "TalePlayModel" "right" "[I", .fieldLink RX12 19 "TalePlayModel" "kindOf" "[I", .methodLink RX12 184 yX12_isOf, .instanceMethod yX12_isOf, .selects RX12 yX12_isOf yX12_isOf, .code yX12_isOf cX12_isOf 4 (some .boolean), .fieldLink RX12 13 "TalePlayModel" "parentOf" "[I", .fieldLink RX12 16 "TalePlayModel" "defaults" "[I", .fieldLink RX12 98 "TalePlayModel" "isBox" "[Z", .fieldLink RX12 101 "TalePlayModel" "isRoom" "[Z", .fieldLink RX12 104 "TalePlayModel" "isDoor" "[Z", .fieldLink RX12 95 "TalePlayModel" "glass" "[Z", .methodLink RX12 395 yX12_lookAround, .instanceMethod yX12_lookAround, .selects RX12 yX12_lookAround yX12_lookAround, .code yX12_lookAround cX12_lookAround 3 none, .methodLink RX12 331 yX12_shellOf, .instanceMethod yX12_shellOf, .selects RX12 yX12_shellOf yX12_shellOf, .code yX12_shellOf cX12_shellOf 3 (some .int), .fieldLink RX12 53 "TalePlayModel" "nAt" "[I", .methodLink RX12 324 yX12_shuts, .instanceMethod yX12_shuts, .selects RX12 yX12_shuts yX12_shuts, .code yX12_shuts cX12_shuts 3 (some .boolean), .fieldLink RX12 56 "TalePlayModel" "nOpen" "[Z", .fieldLink RX12 335 "TalePlayModel" "shell" "I", .fieldLink RX12 338 "TalePlayModel" "handShell" "I", .fieldLink RX12 341 "TalePlayModel" "isLight" "Z", .fieldLink RX12 86 "TalePlayModel" "seen" "[Z", .fieldLink RX12 89 "TalePlayModel" "reached" "[Z", .methodLink RX12 344 yX12_isInView, .instanceMethod yX12_isInView, .selects RX12 yX12_isInView yX12_isInView, .code yX12_isInView cX12_isInView 5 (some .boolean), .fieldLink RX12 50 "TalePlayModel" "nForm" "[I", .methodLink RX12 328 yX12_isSide, .instanceMethod yX12_isSide, .selects RX12 yX12_isSide yX12_isSide, .code yX12_isSide cX12_isSide 4 (some .boolean)] : List Cond) ++ wsX120)
set_option maxRecDepth 20000 in
theorem gm_X12_light_X12_lookAtKinds : GoodIn wm_X12_light (wsV RX12 392 RX12 yX12_lookAtKinds wm_X12_lookAtKinds) := goodIn_app (goodIn_of _ (by decide +kernel)) (goodIn_r _ [6, 7, 8, 9, 10, 11, 5, 12, 13, 14, 15, 16, 17, 18, 19, 20, 21, 22, 23, 24, 25, 26, 27, 28, 29, 30, 31, 32, 33, 62, 63, 64, 65, 66, 67, 68, 69, 70, 71, 72, 73, 74, 75, 76, 77, 78, 79, 80, 81, 82, 83, 84, 85, 86, 87, 88, 89, 90, 91, 92, 93, 94, 95, 96, 97, 98, 99, 100, 101, 102, 103, 104, 105, 106, 107, 108, 109, 110, 111, 112, 113, 114, 115, 116, 117, 118, 119, 120, 121, 122, 123, 124, 125, 126, 127, 128, 129, 130] (by decide +kernel) (by decide +kernel))
set_option maxRecDepth 20000 in
theorem gm_X12_light_X12_lookAround : GoodIn wm_X12_light (wsV RX12 395 RX12 yX12_lookAround wm_X12_lookAround) := goodIn_app (goodIn_of _ (by decide +kernel)) (goodIn_r _ [37, 38, 39, 40, 5, 41, 42, 1, 31, 43, 44, 45, 46, 30, 47, 33, 48, 49, 50, 7, 51, 52, 53, 54, 55, 56, 32, 57, 58, 59, 60, 61, 17, 18, 19, 21, 20, 8, 62, 63, 64, 65, 66, 67, 68, 69, 70, 71, 72, 73, 74, 75, 76, 77, 78, 79, 80, 81, 82, 83, 84, 85, 86, 87, 88, 89, 90, 91, 92, 93, 94, 95, 96, 97, 98, 99, 100, 101, 102, 103, 104, 105, 106, 107, 108, 109, 110, 111, 112, 113, 114, 115, 116, 117, 118, 119, 120, 121, 122, 123, 124, 125, 126, 127, 128, 129, 130] (by decide +kernel) (by decide +kernel))
set_option maxHeartbeats 4000000 in
set_option maxRecDepth 100000 in
theorem s_X12_light (l : Launch) (D : va_G) (sz : Nat) (o : Nat) (a : Nat → Nat) (t : Nat → ClassId) (i : Nat → Int32) (q : Int64) (c : Nat → Nat → Int32) (d : Nat → Nat → Int64) (hI : mInv i c) (hs_S : SJ (c 3) (c 6) (c 9) (c 10) (c 11) (c 13) (i 2).toInt (i 5).toInt (i 8).toInt) (hs_J : TJ (c 3) (c 6) (c 23) (c 24) (c 29) (c 30) (i 5).toInt (i 22).toInt (i 27).toInt) : Met l yX12_light wm_X12_light ({ frames := 3, cells := 0, slots := 0, locals := 69 }) (va_Pc [.ref o] (pB D sz (mW o a t i q c d) (mT t))) (va_Qi (fun (r : Int32) (u : MS) => True ∧ mInv u.1 u.2.2.1 ∧ (∀ k, k ∉ ([40, 41, 42] : List Nat) → u.1 k = i k) ∧ (∀ k, k ∉ ([43, 44, 45, 46, 47, 48, 49] : List Nat) → u.2.2.1 k = c k)) (oC D (va_A (mW o a t i q c d) sz) (fun u : MS => mW o a t u.1 u.2.1 u.2.2.1 u.2.2.2) (fun _ => [])) (va_A (mW o a t i q c d) sz)) 0 0 (va_A (mW o a t i q c d) sz) := by
  refine Met.ofW (cc := cX12_light) (maxL := 1) (ret := (some .int)) (by decide) rfl ?_
  intro p e s m args below meth cd s₁ B hml hv
  obtain ⟨rfl, hsz, hP, hK, hD0⟩ := hv
  have hx := B.exec
  have hb := B.bytes
  have hr := B.returns
  have hts := atoms_spec (ws := wm_X12_light) B.pre
  have hown : s.vm.findClass RX12 = some m.cls := findClass_of_methodNamed B.named
  have hlocks := B.notSynchronized
  subst hsz
  have hD := hD0.self (sz := s.heap.size)
  generalize hAe : va_A (mW o a t i q c d) s.heap.size = A at hD ⊢
  have hA : ∀ q : Nat, s.heap.size ≤ q → A q := fun q h => by rw [← hAe]; exact Or.inr h
  have hS : va_S A s.heap s.heap [] := va_S.rf
  have hfi : ∀ k, k ∉ ([] : List Nat) → i k = i k := fun _ _ => rfl
  have hfc : ∀ k, k ∉ ([] : List Nat) → c k = c k := fun _ _ => rfl
  have hl := lv_entry ([.ref o]) (n := 1) (Nat.le_of_ble_eq_true rfl)
  rw [lg_entry_eq]
  generalize (lg_sl ([.ref o]) ++ List.replicate (1 - (lg_sl ([.ref o])).length) Slot.unset).toArray = ls at hl ⊢
  have hl : lv_has ls 1 [(0, .ref o)] := hl
  refine lv_aload_n hx hb dX12_light_0 rfl (lv_at hl 0 rfl) ?_
  refine mget_22 (v := (i 22)) rfl hx hb hts (fun _ h => List.mem_cons_of_mem _ (List.mem_append_right _ h)) hown hK hP (hts (.fieldLink RX12 155 "TalePlayModel" "player" "I") (by decide +kernel)) dX12_light_1 ?_
  have rb22_i : (i 22).toInt = -9 ∨ (0 ≤ (i 22).toInt ∧ (i 22).toInt ≤ 29) := hI.1 22
  refine lv_bipush (v := (-9)) hx hb dX12_light_4 (by decide) ?_
  refine lv_icmp_ne (tgt := 12) hx hb dX12_light_6 (by decide) (fun c1 => ?_) (fun c1 => ?_)
  · have f1 := mt (ti_eq (a := (i 22).toInt) (b := (-9)) rfl (by decide)).mpr c1
    have hs_T : TI (i 5).toInt (fun z => Kd (c 3) (c 6) z 0) (i 22).toInt (c 23) (c 24) := (hs_J (by omega)).2.1
    have hs_P : Kd (c 3) (c 6) (i 22).toInt 5 := (hs_J (by omega)).1
    have hs_G : Acy (gF (c 9) (c 10) (c 11) (c 13) (c 23) (c 24) (i 8).toInt (i 5).toInt (i 22).toInt) := gF_acy hs_S hs_J
    refine lv_aload_n hx hb dX12_light_12 rfl (lv_at hl 0 rfl) ?_
    have rb5_i : 0 ≤ (i 5).toInt ∧ (i 5).toInt ≤ 30 := hI.1 5
    refine al_callv (va_runV (As := []) (rest := []) ⟨hx, hb, hml, hown, hts⟩ (s_X12_lookAtKinds l D s.heap.size o a t i q c d  hI ) (cwV 0 hts gm_X12_light_X12_lookAtKinds rfl rfl rfl (by decide +kernel) ⟨Nat.le_of_ble_eq_true rfl, Nat.le_of_ble_eq_true rfl⟩) (pB_V hK hP hD (ci := 12) (q0 := 0) rfl rfl) rfl rfl hl.1 rfl (lv_room (Nat.le_of_ble_eq_true rfl)) dX12_light_13 ⟨Nat.le_of_ble_eq_true rfl, Nat.le_of_ble_eq_true rfl⟩) hS hA hP hD (fun u2 H locs hw2 hP hD hS => ?_)
    obtain ⟨i2, q2, c2, d2⟩ := u2
    have hw2 : True ∧ mInv i2 c2 ∧ (∀ k, k ∉ ([] : List Nat) → i2 k = i k) ∧ (∀ k, k ∉ ([45, 46, 47, 48, 49] : List Nat) → c2 k = c k) ∧ (Cc (c 3) (c 6) (c2 47) (c2 48) (c2 49) (i 5).toInt) := hw2
    obtain ⟨hw2, hI, hei2, hec2, hxp2_0⟩ := hw2
    have hxp2_0 : Cc (c 3) (c 6) (c2 47) (c2 48) (c2 49) (i 5).toInt := hxp2_0
    have hfi : ∀ k, k ∉ ([] : List Nat) → i2 k = i k := fr_z hfi hei2 (by decide) (by decide)
    have hfc : ∀ k, k ∉ ([45, 46, 47, 48, 49] : List Nat) → c2 k = c k := fr_z hfc hec2 (by decide) (by decide)
    have hP : va_P D vwCl (mW o a t i2 q2 c2 d2) H := hP
    have hD : va_D A (mW o a t i2 q2 c2 d2) := hD
    have hs_C := hxp2_0
    refine lv_aload_n hx hb dX12_light_16 rfl (lv_at hl 0 rfl) ?_
    have rb5_i2 : 0 ≤ (i2 5).toInt ∧ (i2 5).toInt ≤ 30 := hI.1 5
    have re5_i2 : (i2 5).toInt = (i 5).toInt := congrArg Int32.toInt (hfi 5 (by decide))
    have rb22_i2 : (i2 22).toInt = -9 ∨ (0 ≤ (i2 22).toInt ∧ (i2 22).toInt ≤ 29) := hI.1 22
    have re22_i2 : (i2 22).toInt = (i 22).toInt := congrArg Int32.toInt (hfi 22 (by decide))
    refine al_callv (va_runV (As := []) (rest := []) ⟨hx, hb, hml, hown, hts⟩ (s_X12_lookAround l D H.size o a t i2 q2 c2 d2  hI (by rw [show c2 3 = c 3 from hfc 3 (by decide), show c2 6 = c 6 from hfc 6 (by decide), show c2 23 = c 23 from hfc 23 (by decide), show c2 24 = c 24 from hfc 24 (by decide), show i2 5 = i 5 from hfi 5 (by decide), show i2 22 = i 22 from hfi 22 (by decide)]; exact hs_T) (by rw [show c2 3 = c 3 from hfc 3 (by decide), show c2 6 = c 6 from hfc 6 (by decide), show i2 5 = i 5 from hfi 5 (by decide)]; exact hs_C)) (cwV 0 hts gm_X12_light_X12_lookAround rfl rfl rfl (by decide +kernel) ⟨Nat.le_of_ble_eq_true rfl, Nat.le_of_ble_eq_true rfl⟩) (pB_V hK hP hD (ci := 12) (q0 := 0) rfl rfl) rfl rfl hl.1 rfl (lv_room (Nat.le_of_ble_eq_true rfl)) dX12_light_17 ⟨Nat.le_of_ble_eq_true rfl, Nat.le_of_ble_eq_true rfl⟩) hS hA hP hD (fun u3 H locs hw3 hP hD hS => ?_)
    obtain ⟨i3, q3, c3, d3⟩ := u3
    have hw3 : True ∧ mInv i3 c3 ∧ (∀ k, k ∉ ([40, 41, 42] : List Nat) → i3 k = i2 k) ∧ (∀ k, k ∉ ([43, 44] : List Nat) → c3 k = c2 k) ∧ (RQ (c3 44) (c2 49) (nF (i2 5).toInt (c2 23) (c2 24)) (i2 22).toInt (i2 5).toInt) := hw3
    obtain ⟨hw3, hI, hei3, hec3, hxp3_0⟩ := hw3
    have hxp3_0 : RQ (c3 44) (c2 49) (nF (i 5).toInt (c 23) (c 24)) (i 22).toInt (i 5).toInt := by have h9 := hxp3_0; rw [show c2 23 = c 23 from hfc 23 (by decide), show c2 24 = c 24 from hfc 24 (by decide), show i2 5 = i 5 from hfi 5 (by decide), show i2 22 = i 22 from hfi 22 (by decide)] at h9; exact h9
    have hfi : ∀ k, k ∉ ([40, 41, 42] : List Nat) → i3 k = i k := fr_z hfi hei3 (by decide) (by decide)
    have hfc : ∀ k, k ∉ ([43, 44, 45, 46, 47, 48, 49] : List Nat) → c3 k = c k := fr_z hfc hec3 (by decide) (by decide)
    have hP : va_P D vwCl (mW o a t i3 q3 c3 d3) H := hP
    have hD : va_D A (mW o a t i3 q3 c3 d3) := hD
    have hs_C : Cc (c 3) (c 6) (c3 47) (c3 48) (c3 49) (i 5).toInt := by rw [show c3 47 = c2 47 from hec3 47 (by decide), show c3 48 = c2 48 from hec3 48 (by decide), show c3 49 = c2 49 from hec3 49 (by decide)]; exact hs_C
    refine lv_aload_n hx hb dX12_light_20 rfl (lv_at hl 0 rfl) ?_
    refine mget_42 (v := (i3 42)) rfl hx hb hts (fun _ h => List.mem_cons_of_mem _ (List.mem_append_right _ h)) hown hK hP (hts (.fieldLink RX12 341 "TalePlayModel" "isLight" "Z") (by decide +kernel)) dX12_light_21 ?_
    have rb42_i3 : 0 ≤ (i3 42).toInt ∧ (i3 42).toInt ≤ 1 := hI.1 42
    refine lv_if_eq (tgt := 31) hx hb dX12_light_24 (by decide) (fun c4 => ?_) (fun c4 => ?_)
    · have f4 := (ti_eq (a := (i3 42).toInt) (b := 0) rfl (by decide)).mp c4
      refine lv_iconst (v := 0) hx hb dX12_light_31 (by decide) ?_
      exact rw_iret (i3, q3, c3, d3) hx hb hr hlocks hS (hK.sub (tys' := []) [] rfl) hP hD dX12_light_32 ⟨trivial, hI, fr_w hfi (by decide), fr_w hfc (by decide)⟩
    · have f4 := mt (ti_eq (a := (i3 42).toInt) (b := 0) rfl (by decide)).mpr c4
      refine lv_iconst (v := 1) hx hb dX12_light_27 (by decide) ?_
      refine lv_goto (tgt := 32) hx hb dX12_light_28 (by decide) ?_
      exact rw_iret (i3, q3, c3, d3) hx hb hr hlocks hS (hK.sub (tys' := []) [] rfl) hP hD dX12_light_32 ⟨trivial, hI, fr_w hfi (by decide), fr_w hfc (by decide)⟩
  · have f1 := (ti_eq (a := (i 22).toInt) (b := (-9)) rfl (by decide)).mp c1
    refine lv_bipush (v := (-5)) hx hb dX12_light_9 (by decide) ?_
    exact rw_iret (i, q, c, d) hx hb hr hlocks hS (hK.sub (tys' := []) [] rfl) hP hD dX12_light_11 ⟨trivial, hI, fr_w hfi (by decide), fr_w hfc (by decide)⟩

