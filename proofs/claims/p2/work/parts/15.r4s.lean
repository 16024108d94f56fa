def wm_X12_say : List Cond := .code yX12_say cX12_say 9 (some .int) :: (([.fieldLink RX12 205 "TalePlayModel" "rowMany" "I", .constantLong RX12 220 (7), .methodLink RX12 166 yX12_in, .static yX12_in, .initialized RX12, .code yX12_in cX12_in 6 (some .boolean), .methodLink RX12 222 yX12_areNumbers, .instanceMethod yX12_areNumbers, .selects RX12 yX12_areNumbers yX12_areNumbers, .code yX12_areNumbers cX12_areNumbers 5 (some .boolean), .methodLink RX12 180 yX12_isObject, .instanceMethod yX12_isObject, .selects RX12 yX12_isObject yX12_isObject, .code yX12_isObject cX12_isObject 2 (some .boolean), .fieldLink RX12 177 "TalePlayModel" "objects" "I", .constantLong RX12 197 (9), .constantLong RX12 170 (5), .methodLink RX12 226 yX12_fitsLeft, .instanceMethod yX12_fitsLeft, .selects RX12 yX12_fitsLeft yX12_fitsLeft, .code yX12_fitsLeft cX12_fitsLeft 4 (some .boolean), .methodLink RX12 194 yX12_isGoods, .instanceMethod yX12_isGoods, .selects RX12 yX12_isGoods yX12_isGoods, .code yX12_isGoods cX12_isGoods 2 (some .boolean), .methodLink RX12 188 yX12_isMovable, .instanceMethod yX12_isMovable, .selects RX12 yX12_isMovable yX12_isMovable, .code yX12_isMovable cX12_isMovable 2 (some .boolean), .methodLink RX12 184 yX12_isOf, .instanceMethod yX12_isOf, .selects RX12 yX12_isOf yX12_isOf, .code yX12_isOf cX12_isOf 4 (some .boolean), .fieldLink RX12 19 "TalePlayModel" "kindOf" "[I", .fieldLink RX12 13 "TalePlayModel" "parentOf" "[I", .methodLink RX12 199 yX12_mayHave, .instanceMethod yX12_mayHave, .selects RX12 yX12_mayHave yX12_mayHave, .code yX12_mayHave cX12_mayHave 3 (some .boolean), .methodLink RX12 191 yX12_isShutter, .instanceMethod yX12_isShutter, .selects RX12 yX12_isShutter yX12_isShutter, .code yX12_isShutter cX12_isShutter 2 (some .boolean), .fieldLink RX12 202 "TalePlayModel" "sentences" "I", .fieldLink RX12 25 "TalePlayModel" "form" "[I", .fieldLink RX12 28 "TalePlayModel" "left" "[I", .fieldLink RX12 31 "TalePlayModel" "middle" "[I", .fieldLink RX12 34 "TalePlayModel" "right" "[I", .fieldLink RX12 37 "TalePlayModel" "isSaid" "[Z", .methodLink RX12 172 yX12_endTale, .instanceMethod yX12_endTale, .selects RX12 yX12_endTale yX12_endTale, .code yX12_endTale cX12_endTale 1 none, .fieldLink RX12 155 "TalePlayModel" "player" "I", .fieldLink RX12 291 "TalePlayModel" "turns" "I", .methodLink RX12 245 yX12_isKeyBarred, .instanceMethod yX12_isKeyBarred, .selects RX12 yX12_isKeyBarred yX12_isKeyBarred, .code yX12_isKeyBarred cX12_isKeyBarred 3 (some .boolean), .methodLink RX12 212 yX12_clashes, .instanceMethod yX12_clashes, .selects RX12 yX12_clashes yX12_clashes, .code yX12_clashes cX12_clashes 2 none, .fieldLink RX12 41 "TalePlayModel" "row" "[I", .methodLink RX12 242 yX12_isFlagBarred, .instanceMethod yX12_isFlagBarred, .selects RX12 yX12_isFlagBarred yX12_isFlagBarred, .code yX12_isFlagBarred cX12_isFlagBarred 5 (some .boolean), .methodLink RX12 216 yX12_saidSo, .instanceMethod yX12_saidSo, .selects RX12 yX12_saidSo yX12_saidSo, .code yX12_saidSo cX12_saidSo 6 (some .int), .methodLink RX12 208 yX12_placing, .instanceMethod yX12_placing, .selects RX12 yX12_placing yX12_placing, .code yX12_placing cX12_placing 3 (some .int), .methodLink RX12 239 yX12_isExitBarred, .instanceMethod yX12_isExitBarred, .selects RX12 yX12_isExitBarred yX12_isExitBarred, .code yX12_isExitBarred cX12_isExitBarred 5 (some .boolean), .methodLink RX12 236 yX12_isPlaceBarred, .instanceMethod yX12_isPlaceBarred, .selects RX12 yX12_isPlaceBarred yX12_isPlaceBarred, .code yX12_isPlaceBarred cX12_isPlaceBarred 7 (some .boolean), .methodLink RX12 233 yX12_meets, .instanceMethod yX12_meets, .selects RX12 yX12_meets yX12_meets, .code yX12_meets cX12_meets 2 (some .int), .fieldLink RX12 161 "TalePlayModel" "latest" "I", .fieldLink RX12 7 "TalePlayModel" "came" "[I", .methodLink RX12 230 yX12_fitsRight, .instanceMethod yX12_fitsRight, .selects RX12 yX12_fitsRight yX12_fitsRight, .code yX12_fitsRight cX12_fitsRight 3 (some .boolean)] : List Cond) ++ wsX120)
set_option maxRecDepth 20000 in
theorem gm_X12_say_X12_in : GoodIn wm_X12_say (va_wsS RX12 166 yX12_in wm_X12_in) := goodIn_app (goodIn_of _ (by decide +kernel)) (goodIn_r _ [6] (by decide +kernel) (by decide +kernel))
set_option maxRecDepth 20000 in
theorem gm_X12_say_X12_areNumbers : GoodIn wm_X12_say (wsV RX12 222 RX12 yX12_areNumbers wm_X12_areNumbers) := goodIn_app (goodIn_of _ (by decide +kernel)) (goodIn_r _ [10, 11, 12, 13, 5, 14, 15, 3, 4, 6, 16, 17, 95, 96, 97, 98, 99, 100, 101, 102, 103, 104, 105, 106, 107, 108, 109, 110, 111, 112, 113, 114, 115, 116, 117, 118, 119, 120, 121, 122, 123, 124, 125, 126, 127, 128, 129, 130, 131, 132, 133, 134, 135, 136, 137, 138, 139, 140, 141, 142, 143, 144, 145, 146, 147, 148, 149, 150, 151, 152, 153, 154, 155, 156, 157, 158, 159, 160, 161, 162, 163] (by decide +kernel) (by decide +kernel))
set_option maxRecDepth 20000 in
theorem gm_X12_say_X12_fitsLeft : GoodIn wm_X12_say (wsV RX12 226 RX12 yX12_fitsLeft wm_X12_fitsLeft) := goodIn_app (goodIn_of _ (by decide +kernel)) (goodIn_r _ [21, 22, 23, 24, 5, 25, 26, 27, 28, 29, 30, 31, 32, 33, 34, 35, 36, 37, 38, 39, 40, 41, 42, 43, 95, 96, 97, 98, 99, 100, 101, 102, 103, 104, 105, 106, 107, 108, 109, 110, 111, 112, 113, 114, 115, 116, 117, 118, 119, 120, 121, 122, 123, 124, 125, 126, 127, 128, 129, 130, 131, 132, 133, 134, 135, 136, 137, 138, 139, 140, 141, 142, 143, 144, 145, 146, 147, 148, 149, 150, 151, 152, 153, 154, 155, 156, 157, 158, 159, 160, 161, 162, 163] (by decide +kernel) (by decide +kernel))
set_option maxRecDepth 20000 in
theorem gm_X12_say_X12_endTale : GoodIn wm_X12_say (wsV RX12 172 RX12 yX12_endTale wm_X12_endTale) := goodIn_app (goodIn_of _ (by decide +kernel)) (goodIn_r _ [53, 54, 55, 95, 96, 97, 98, 99, 100, 101, 102, 103, 104, 105, 106, 107, 108, 109, 110, 111, 112, 113, 114, 115, 116, 117, 118, 119, 120, 121, 122, 123, 124, 125, 126, 127, 128, 129, 130, 131, 132, 133, 134, 135, 136, 137, 138, 139, 140, 141, 142, 143, 144, 145, 146, 147, 148, 149, 150, 151, 152, 153, 154, 155, 156, 157, 158, 159, 160, 161, 162, 163] (by decide +kernel) (by decide +kernel))
set_option maxRecDepth 20000 in
theorem gm_X12_say_X12_isKeyBarred : GoodIn wm_X12_say (wsV RX12 245 RX12 yX12_isKeyBarred wm_X12_isKeyBarred) := goodIn_app (goodIn_of _ (by decide +kernel)) (goodIn_r _ [59, 44, 1, 49, 45, 47, 60, 61, 62, 5, 63, 64, 95, 96, 97, 98, 99, 100, 101, 102, 103, 104, 105, 106, 107, 108, 109, 110, 111, 112, 113, 114, 115, 116, 117, 118, 119, 120, 121, 122, 123, 124, 125, 126, 127, 128, 129, 130, 131, 132, 133, 134, 135, 136, 137, 138, 139, 140, 141, 142, 143, 144, 145, 146, 147, 148, 149, 150, 151, 152, 153, 154, 155, 156, 157, 158, 159, 160, 161, 162, 163] (by decide +kernel) (by decide +kernel))
set_option maxRecDepth 20000 in
theorem gm_X12_say_X12_isFlagBarred : GoodIn wm_X12_say (wsV RX12 242 RX12 yX12_isFlagBarred wm_X12_isFlagBarred) := goodIn_app (goodIn_of _ (by decide +kernel)) (goodIn_r _ [68, 69, 70, 71, 5, 72, 44, 49, 45, 46, 47, 48, 60, 61, 62, 63, 64, 1, 73, 74, 75, 76, 95, 96, 97, 98, 99, 100, 101, 102, 103, 104, 105, 106, 107, 108, 109, 110, 111, 112, 113, 114, 115, 116, 117, 118, 119, 120, 121, 122, 123, 124, 125, 126, 127, 128, 129, 130, 131, 132, 133, 134, 135, 136, 137, 138, 139, 140, 141, 142, 143, 144, 145, 146, 147, 148, 149, 150, 151, 152, 153, 154, 155, 156, 157, 158, 159, 160, 161, 162, 163] (by decide +kernel) (by decide +kernel))
set_option maxRecDepth 20000 in
theorem gm_X12_say_X12_isExitBarred : GoodIn wm_X12_say (wsV RX12 239 RX12 yX12_isExitBarred wm_X12_isExitBarred) := goodIn_app (goodIn_of _ (by decide +kernel)) (goodIn_r _ [80, 44, 30, 31, 32, 5, 33, 34, 35, 1, 49, 45, 47, 60, 61, 62, 63, 64, 46, 48, 95, 96, 97, 98, 99, 100, 101, 102, 103, 104, 105, 106, 107, 108, 109, 110, 111, 112, 113, 114, 115, 116, 117, 118, 119, 120, 121, 122, 123, 124, 125, 126, 127, 128, 129, 130, 131, 132, 133, 134, 135, 136, 137, 138, 139, 140, 141, 142, 143, 144, 145, 146, 147, 148, 149, 150, 151, 152, 153, 154, 155, 156, 157, 158, 159, 160, 161, 162, 163] (by decide +kernel) (by decide +kernel))
set_option maxRecDepth 20000 in
theorem gm_X12_say_X12_isPlaceBarred : GoodIn wm_X12_say (wsV RX12 236 RX12 yX12_isPlaceBarred wm_X12_isPlaceBarred) := goodIn_app (goodIn_of _ (by decide +kernel)) (goodIn_r _ [84, 73, 74, 75, 5, 76, 44, 49, 45, 46, 1, 60, 61, 62, 63, 64, 69, 70, 71, 72, 47, 48, 95, 96, 97, 98, 99, 100, 101, 102, 103, 104, 105, 106, 107, 108, 109, 110, 111, 112, 113, 114, 115, 116, 117, 118, 119, 120, 121, 122, 123, 124, 125, 126, 127, 128, 129, 130, 131, 132, 133, 134, 135, 136, 137, 138, 139, 140, 141, 142, 143, 144, 145, 146, 147, 148, 149, 150, 151, 152, 153, 154, 155, 156, 157, 158, 159, 160, 161, 162, 163] (by decide +kernel) (by decide +kernel))
set_option maxRecDepth 20000 in
theorem gm_X12_say_X12_meets : GoodIn wm_X12_say (wsV RX12 233 RX12 yX12_meets wm_X12_meets) := goodIn_app (goodIn_of _ (by decide +kernel)) (goodIn_r _ [88, 89, 90, 95, 96, 97, 98, 99, 100, 101, 102, 103, 104, 105, 106, 107, 108, 109, 110, 111, 112, 113, 114, 115, 116, 117, 118, 119, 120, 121, 122, 123, 124, 125, 126, 127, 128, 129, 130, 131, 132, 133, 134, 135, 136, 137, 138, 139, 140, 141, 142, 143, 144, 145, 146, 147, 148, 149, 150, 151, 152, 153, 154, 155, 156, 157, 158, 159, 160, 161, 162, 163] (by decide +kernel) (by decide +kernel))
set_option maxRecDepth 20000 in
theorem gm_X12_say_X12_saidSo : GoodIn wm_X12_say (wsV RX12 216 RX12 yX12_saidSo wm_X12_saidSo) := goodIn_app (goodIn_of _ (by decide +kernel)) (goodIn_r _ [72, 44, 49, 45, 46, 47, 48, 95, 96, 97, 98, 99, 100, 101, 102, 103, 104, 105, 106, 107, 108, 109, 110, 111, 112, 113, 114, 115, 116, 117, 118, 119, 120, 121, 122, 123, 124, 125, 126, 127, 128, 129, 130, 131, 132, 133, 134, 135, 136, 137, 138, 139, 140, 141, 142, 143, 144, 145, 146, 147, 148, 149, 150, 151, 152, 153, 154, 155, 156, 157, 158, 159, 160, 161, 162, 163] (by decide +kernel) (by decide +kernel))
set_option maxRecDepth 20000 in
theorem gm_X12_say_X12_fitsRight : GoodIn wm_X12_say (wsV RX12 230 RX12 yX12_fitsRight wm_X12_fitsRight) := goodIn_app (goodIn_of _ (by decide +kernel)) (goodIn_r _ [94, 30, 31, 32, 5, 33, 34, 35, 40, 41, 42, 43, 95, 96, 97, 98, 99, 100, 101, 102, 103, 104, 105, 106, 107, 108, 109, 110, 111, 112, 113, 114, 115, 116, 117, 118, 119, 120, 121, 122, 123, 124, 125, 126, 127, 128, 129, 130, 131, 132, 133, 134, 135, 136, 137, 138, 139, 140, 141, 142, 143, 144, 145, 146, 147, 148, 149, 150, 151, 152, 153, 154, 155, 156, 157, 158, 159, 160, 161, 162, 163] (by decide +kernel) (by decide +kernel))
set_option maxHeartbeats 4000000 in
set_option maxRecDepth 100000 in
theorem s_X12_say (l : Launch) (D : va_G) (sz : Nat) (o : Nat) (a : Nat → Nat) (t : Nat → ClassId) (i : Nat → Int32) (q : Int64) (c : Nat → Nat → Int32) (d : Nat → Nat → Int64) (f : Int32) (w1 : Int32) (w2 : Int32) (w3 : Int32) (hI : mInv i c) (hs_S : SJ (c 3) (c 6) (c 9) (c 10) (c 11) (c 13) (i 2).toInt (i 5).toInt (i 8).toInt) (hs_J : TJ (c 3) (c 6) (c 23) (c 24) (c 29) (c 30) (i 5).toInt (i 22).toInt (i 27).toInt) : Met l yX12_say wm_X12_say ({ frames := 5, cells := 0, slots := 0, locals := 110 }) (va_Pc [.ref o, .int f, .int w1, .int w2, .int w3] (pB D sz (mW o a t i q c d) (mT t))) (va_Qi (fun (r : Int32) (u : MS) => True ∧ mInv u.1 u.2.2.1 ∧ (∀ k, k ∉ ([0, 8, 15, 22, 27] : List Nat) → u.1 k = i k) ∧ (∀ k, k ∉ ([1, 9, 10, 11, 12, 13, 14] : List Nat) → u.2.2.1 k = c k) ∧ (SJ (u.2.2.1 3) (u.2.2.1 6) (u.2.2.1 9) (u.2.2.1 10) (u.2.2.1 11) (u.2.2.1 13) (u.1 2).toInt (u.1 5).toInt (u.1 8).toInt) ∧ (TJ (u.2.2.1 3) (u.2.2.1 6) (u.2.2.1 23) (u.2.2.1 24) (u.2.2.1 29) (u.2.2.1 30) (u.1 5).toInt (u.1 22).toInt (u.1 27).toInt)) (oC D (va_A (mW o a t i q c d) sz) (fun u : MS => mW o a t u.1 u.2.1 u.2.2.1 u.2.2.2) (fun _ => [])) (va_A (mW o a t i q c d) sz)) 0 0 (va_A (mW o a t i q c d) sz) := by
  refine Met.ofW (cc := cX12_say) (maxL := 9) (ret := (some .int)) (by decide) rfl ?_
  intro p e s m args below meth cd s₁ B hml hv
  obtain ⟨rfl, hsz, hP, hK, hD0⟩ := hv
  have hx := B.exec
  have hb := B.bytes
  have hr := B.returns
  have hts := atoms_spec (ws := wm_X12_say) B.pre
  have hown : s.vm.findClass RX12 = some m.cls := findClass_of_methodNamed B.named
  have hlocks := B.notSynchronized
  subst hsz
  have hD := hD0.self (sz := s.heap.size)
  generalize hAe : va_A (mW o a t i q c d) s.heap.size = A at hD ⊢
  have hA : ∀ q : Nat, s.heap.size ≤ q → A q := fun q h => by rw [← hAe]; exact Or.inr h
  have hS : va_S A s.heap s.heap [] := va_S.rf
  have hfi : ∀ k, k ∉ ([] : List Nat) → i k = i k := fun _ _ => rfl
  have hfc : ∀ k, k ∉ ([] : List Nat) → c k = c k := fun _ _ => rfl
  have hl := lv_entry ([.ref o, .int f, .int w1, .int w2, .int w3]) (n := 9) (Nat.le_of_ble_eq_true rfl)
  rw [lg_entry_eq]
  generalize (lg_sl ([.ref o, .int f, .int w1, .int w2, .int w3]) ++ List.replicate (9 - (lg_sl ([.ref o, .int f, .int w1, .int w2, .int w3])).length) Slot.unset).toArray = ls at hl ⊢
  have hl : lv_has ls 9 [(0, .ref o), (1, .int f), (2, .int w1), (3, .int w2), (4, .int w3)] := hl
  have hI0 := hI
  have rb5_i : 0 ≤ (i 5).toInt ∧ (i 5).toInt ≤ 30 := hI.1 5
  have rb8_i : 0 ≤ (i 8).toInt ∧ (i 8).toInt ≤ 200 := hI.1 8
  refine lv_aload_n hx hb dX12_say_0 rfl (lv_at hl 0 rfl) ?_
  refine lv_iconst (v := 0) hx hb dX12_say_1 (by decide) ?_
  refine mput_15 hx hb hts (fun _ h => List.mem_cons_of_mem _ (List.mem_append_right _ h)) hown hK hP hD hS (hts (.fieldLink RX12 205 "TalePlayModel" "rowMany" "I") (by decide +kernel)) rfl rfl dX12_say_2 (fun H locs hP hD hS => ?_)
  have hI := mInv_i hI (k := 15) (v := 0) (show 0 ≤ (0 : Int32).toInt ∧ (0 : Int32).toInt ≤ 200 from by have h9 : (0 : Int32).toInt = 0 := (by decide); omega)
  have hfi : ∀ k, k ∉ ([15] : List Nat) → (upd i 15 0) k = i k := fr_iz hfi (by decide) (by decide)
  refine lv_iload_n hx hb dX12_say_5 rfl (lv_at hl 1 rfl) ?_
  refine lv_i2l (v := f.toInt64) hx hb dX12_say_6 rfl ?_
  refine lv_lconst (v := 0) hx hb dX12_say_7 (by decide) ?_
  refine lv_ldc2 (v := 7) hx hb hown (hts (.constantLong RX12 220 (7)) (by decide +kernel)) dX12_say_8 ?_
  have hPc := hP.sub (ws' := []) [] rfl
  have hKc := hK.sub (tys' := []) [] rfl
  refine ro_calli (va_runS (As := [.long f.toInt64, .long 0, .long 7]) (rest := []) ⟨hx, hb, hml, hown, hts⟩ (c_X12_in l D H.size f.toInt64 0 7 f.toInt 0 7 ((Int32.toInt_toInt64 f).trans rfl) (by decide) (by decide)) (va_cwS 3 hts gm_X12_say_X12_in rfl rfl rfl (by decide +kernel) ⟨Nat.le_of_ble_eq_true rfl, Nat.le_of_ble_eq_true rfl⟩) (pA_S hKc hPc) rfl rfl hl.1 rfl (lv_room (Nat.le_of_ble_eq_true rfl)) dX12_say_11 ⟨Nat.le_of_ble_eq_true rfl, Nat.le_of_ble_eq_true rfl⟩) hS hA hP (fun r1 u1 H locs hw1 hP hS => ?_)
  have hw1 : r1 = if (0 ≤ f.toInt ∧ f.toInt ≤ 7) then 1 else 0 := hw1
  refine lv_if_eq (tgt := 29) hx hb dX12_say_14 (by decide) (fun c2 => ?_) (fun c2 => ?_)
  · have f2 := fl_f hw1 c2
    refine lv_iconst (v := (-1)) hx hb dX12_say_29 (by decide) ?_
    exact rw_iret ((upd i 15 0), q, c, d) hx hb hr hlocks hS (hK.sub (tys' := []) [] rfl) hP hD dX12_say_30 ⟨trivial, hI, fr_w hfi (by decide), fr_w hfc (by decide), (show SJ (c 3) (c 6) (c 9) (c 10) (c 11) (c 13) ((i 2) : Int32).toInt ((i 5) : Int32).toInt ((i 8) : Int32).toInt from hs_S), (show TJ (c 3) (c 6) (c 23) (c 24) (c 29) (c 30) ((i 5) : Int32).toInt ((i 22) : Int32).toInt ((i 27) : Int32).toInt from hs_J)⟩
  · have f2 := fl_t hw1 c2
    refine lv_aload_n hx hb dX12_say_17 rfl (lv_at hl 0 rfl) ?_
    refine lv_iload_n hx hb dX12_say_18 rfl (lv_at hl 1 rfl) ?_
    refine lv_iload_n hx hb dX12_say_19 rfl (lv_at hl 2 rfl) ?_
    refine lv_iload_n hx hb dX12_say_20 rfl (lv_at hl 3 rfl) ?_
    refine lv_iload hx hb dX12_say_21 (lv_at hl 4 rfl) ?_
    refine ro_calli (va_runV (As := [.int f, .int w1, .int w2, .int w3]) (rest := []) ⟨hx, hb, hml, hown, hts⟩ (s_X12_areNumbers l D H.size o a t (upd i 15 0) q c d f w1 w2 w3 hI ) (cwV 4 hts gm_X12_say_X12_areNumbers rfl rfl rfl (by decide +kernel) ⟨Nat.le_of_ble_eq_true rfl, Nat.le_of_ble_eq_true rfl⟩) (pA_V hK hP (ci := 12) (q0 := 0) rfl rfl) rfl rfl hl.1 rfl (lv_room (Nat.le_of_ble_eq_true rfl)) dX12_say_23 ⟨Nat.le_of_ble_eq_true rfl, Nat.le_of_ble_eq_true rfl⟩) hS hA hP (fun r3 u3 H locs hw3 hP hS => ?_)
    have hw3 : ((0 ≤ r3.toInt ∧ r3.toInt ≤ 1) ∧ (Im (r3.toInt = 1) (0 ≤ w1.toInt ∧ w1.toInt < ((upd i 15 0) 5).toInt ∧ (¬ f.toInt = 6 → 0 ≤ w2.toInt ∧ w2.toInt < ((upd i 15 0) 5).toInt) ∧ (f.toInt = 6 → 0 ≤ w2.toInt ∧ w2.toInt ≤ 5 ∧ 0 ≤ w3.toInt ∧ w3.toInt ≤ 1) ∧ (f.toInt = 5 → 0 ≤ w3.toInt ∧ w3.toInt ≤ 9)))) := hw3
    obtain ⟨hw3, hr3_0⟩ := hw3
    have hr3_0 : Im (r3.toInt = 1) (0 ≤ w1.toInt ∧ w1.toInt < (i 5).toInt ∧ (¬ f.toInt = 6 → 0 ≤ w2.toInt ∧ w2.toInt < (i 5).toInt) ∧ (f.toInt = 6 → 0 ≤ w2.toInt ∧ w2.toInt ≤ 5 ∧ 0 ≤ w3.toInt ∧ w3.toInt ≤ 1) ∧ (f.toInt = 5 → 0 ≤ w3.toInt ∧ w3.toInt ≤ 9)) := by have h9 := hr3_0; rw [show (upd i 15 0) 5 = i 5 from hfi 5 (by decide)] at h9; exact h9
    refine lv_if_ne (tgt := 31) hx hb dX12_say_26 (by decide) (fun c4 => ?_) (fun c4 => ?_)
    · have f4 := mt (ti_eq (a := r3.toInt) (b := 0) rfl (by decide)).mpr c4
      have hAN := hr3_0 (by omega)
      refine lv_iload_n hx hb dX12_say_31 rfl (lv_at hl 1 rfl) ?_
      refine lv_iconst (v := 5) hx hb dX12_say_32 (by decide) ?_
      have jn5 : ∀ (z5_0 : Int32), (0 ≤ z5_0.toInt ∧ z5_0.toInt ≤ 9) → ∀ (H : Heap) (locs : List Loc) (ls : Array Slot), va_P D vwCl (mW o a t (upd i 15 0) q c d) H → va_D A (mW o a t (upd i 15 0) q c d) → va_S A s.heap H locs → lv_has ls 9 [(0, .ref o), (1, .int f), (2, .int w1), (3, .int w2), (4, .int w3)] → W p l e (headSpec wm_X12_say ({ frames := 5, cells := 0, slots := 0, locals := 110 })).room s m ([.ref o, .int f, .int w1, .int w2, .int w3] : List Value).toArray below meth cd H locs 0 0 (MQ below (va_Qi (fun (r : Int32) (u : MS) => True ∧ mInv u.1 u.2.2.1 ∧ (∀ k, k ∉ ([0, 8, 15, 22, 27] : List Nat) → u.1 k = i k) ∧ (∀ k, k ∉ ([1, 9, 10, 11, 12, 13, 14] : List Nat) → u.2.2.1 k = c k) ∧ (SJ (u.2.2.1 3) (u.2.2.1 6) (u.2.2.1 9) (u.2.2.1 10) (u.2.2.1 11) (u.2.2.1 13) (u.1 2).toInt (u.1 5).toInt (u.1 8).toInt) ∧ (TJ (u.2.2.1 3) (u.2.2.1 6) (u.2.2.1 23) (u.2.2.1 24) (u.2.2.1 29) (u.2.2.1 30) (u.1 5).toInt (u.1 22).toInt (u.1 27).toInt)) (oC D A (fun u : MS => mW o a t u.1 u.2.1 u.2.2.1 u.2.2.2) (fun _ => [])) A) ([.ref o, .int f, .int w1, .int w2, .int w3] : List Value).toArray s 0 0 A) (F0 m 48 ls [.int z5_0]) := by
        intro z5_0 hs5_0 H locs ls hP hD hS hl
        refine lv_istore (lv' := [(5, .int z5_0), (0, .ref o), (1, .int f), (2, .int w1), (3, .int w2), (4, .int w3)]) hx hb dX12_say_48 hl (by decide) rfl (fun ls hl => ?_)
        refine lv_aload_n hx hb dX12_say_50 rfl (lv_at hl 1 rfl) ?_
        refine lv_iload_n hx hb dX12_say_51 rfl (lv_at hl 2 rfl) ?_
        refine lv_iload_n hx hb dX12_say_52 rfl (lv_at hl 3 rfl) ?_
        refine lv_iload_n hx hb dX12_say_53 rfl (lv_at hl 4 rfl) ?_
        refine ro_calli (va_runV (As := [.int f, .int w1, .int w2]) (rest := []) ⟨hx, hb, hml, hown, hts⟩ (s_X12_fitsLeft l D H.size o a t (upd i 15 0) q c d f w1 w2 hI (show 0 ≤ w1.toInt ∧ w1.toInt ≤ 29 from by have h60 : (0 : Int32).toInt = 0 := (by decide); omega)) (cwV 3 hts gm_X12_say_X12_fitsLeft rfl rfl rfl (by decide +kernel) ⟨Nat.le_of_ble_eq_true rfl, Nat.le_of_ble_eq_true rfl⟩) (pA_V hK hP (ci := 12) (q0 := 0) rfl rfl) rfl rfl hl.1 rfl (lv_room (Nat.le_of_ble_eq_true rfl)) dX12_say_54 ⟨Nat.le_of_ble_eq_true rfl, Nat.le_of_ble_eq_true rfl⟩) hS hA hP (fun r6 u6 H locs hw6 hP hS => ?_)
        have hw6 : ((0 ≤ r6.toInt ∧ r6.toInt ≤ 1) ∧ (Im (r6.toInt = 1) (Im (f.toInt < 5 ∨ f.toInt = 7) (Kd (c 3) (c 6) w1.toInt 1) ∧ Im (f.toInt = 5) (Kd (c 3) (c 6) w1.toInt 0)))) := hw6
        obtain ⟨hw6, hr6_0⟩ := hw6
        have hr6_0 : Im (r6.toInt = 1) (Im (f.toInt < 5 ∨ f.toInt = 7) (Kd (c 3) (c 6) w1.toInt 1) ∧ Im (f.toInt = 5) (Kd (c 3) (c 6) w1.toInt 0)) := hr6_0
        have jn7 : ∀ (z7_0 : Int32), (z7_0.toInt = 0 ∨ z7_0.toInt = 1) → (Im (z7_0.toInt = 1) (Im (f.toInt < 5) (¬ Kd (c 3) (c 6) w1.toInt 0) ∧ Im (f.toInt = 5) (Kd (c 3) (c 6) w1.toInt 0 ∧ (Kd (c 3) (c 6) w2.toInt 0 ∨ Kd (c 3) (c 6) w2.toInt 2)))) → ∀ (H : Heap) (locs : List Loc) (ls : Array Slot), va_P D vwCl (mW o a t (upd i 15 0) q c d) H → va_D A (mW o a t (upd i 15 0) q c d) → va_S A s.heap H locs → lv_has ls 9 [(5, .int z5_0), (0, .ref o), (1, .int f), (2, .int w1), (3, .int w2), (4, .int w3)] → W p l e (headSpec wm_X12_say ({ frames := 5, cells := 0, slots := 0, locals := 110 })).room s m ([.ref o, .int f, .int w1, .int w2, .int w3] : List Value).toArray below meth cd H locs 0 0 (MQ below (va_Qi (fun (r : Int32) (u : MS) => True ∧ mInv u.1 u.2.2.1 ∧ (∀ k, k ∉ ([0, 8, 15, 22, 27] : List Nat) → u.1 k = i k) ∧ (∀ k, k ∉ ([1, 9, 10, 11, 12, 13, 14] : List Nat) → u.2.2.1 k = c k) ∧ (SJ (u.2.2.1 3) (u.2.2.1 6) (u.2.2.1 9) (u.2.2.1 10) (u.2.2.1 11) (u.2.2.1 13) (u.1 2).toInt (u.1 5).toInt (u.1 8).toInt) ∧ (TJ (u.2.2.1 3) (u.2.2.1 6) (u.2.2.1 23) (u.2.2.1 24) (u.2.2.1 29) (u.2.2.1 30) (u.1 5).toInt (u.1 22).toInt (u.1 27).toInt)) (oC D A (fun u : MS => mW o a t u.1 u.2.1 u.2.2.1 u.2.2.2) (fun _ => [])) A) ([.ref o, .int f, .int w1, .int w2, .int w3] : List Value).toArray s 0 0 A) (F0 m 80 ls [.int z7_0]) := by
          intro z7_0 hs7_0 hz7_0 H locs ls hP hD hS hl
          refine lv_istore (lv' := [(6, .int z7_0), (5, .int z5_0), (0, .ref o), (1, .int f), (2, .int w1), (3, .int w2), (4, .int w3)]) hx hb dX12_say_80 hl (by decide) rfl (fun ls hl => ?_)
          refine lv_iload hx hb dX12_say_82 (lv_at hl 0 rfl) ?_
          have jn8 : ∀ (z8_0 : Int32), (z8_0.toInt = -9 ∨ (0 ≤ z8_0.toInt ∧ z8_0.toInt ≤ 199)) → ∀ (H : Heap) (locs : List Loc) (ls : Array Slot), va_P D vwCl (mW o a t (upd i 15 0) q c d) H → va_D A (mW o a t (upd i 15 0) q c d) → va_S A s.heap H locs → lv_has ls 9 [(6, .int z7_0), (5, .int z5_0), (0, .ref o), (1, .int f), (2, .int w1), (3, .int w2), (4, .int w3)] → W p l e (headSpec wm_X12_say ({ frames := 5, cells := 0, slots := 0, locals := 110 })).room s m ([.ref o, .int f, .int w1, .int w2, .int w3] : List Value).toArray below meth cd H locs 0 0 (MQ below (va_Qi (fun (r : Int32) (u : MS) => True ∧ mInv u.1 u.2.2.1 ∧ (∀ k, k ∉ ([0, 8, 15, 22, 27] : List Nat) → u.1 k = i k) ∧ (∀ k, k ∉ ([1, 9, 10, 11, 12, 13, 14] : List Nat) → u.2.2.1 k = c k) ∧ (SJ (u.2.2.1 3) (u.2.2.1 6) (u.2.2.1 9) (u.2.2.1 10) (u.2.2.1 11) (u.2.2.1 13) (u.1 2).toInt (u.1 5).toInt (u.1 8).toInt) ∧ (TJ (u.2.2.1 3) (u.2.2.1 6) (u.2.2.1 23) (u.2.2.1 24) (u.2.2.1 29) (u.2.2.1 30) (u.1 5).toInt (u.1 22).toInt (u.1 27).toInt)) (oC D A (fun u : MS => mW o a t u.1 u.2.1 u.2.2.1 u.2.2.2) (fun _ => [])) A) ([.ref o, .int f, .int w1, .int w2, .int w3] : List Value).toArray s 0 0 A) (F0 m 101 ls [.int z8_0]) := by
            intro z8_0 hs8_0 H locs ls hP hD hS hl
            refine lv_istore (lv' := [(7, .int z8_0), (6, .int z7_0), (5, .int z5_0), (0, .ref o), (1, .int f), (2, .int w1), (3, .int w2), (4, .int w3)]) hx hb dX12_say_101 hl (by decide) rfl (fun ls hl => ?_)
            refine lv_iload hx hb dX12_say_103 (lv_at hl 0 rfl) ?_
            refine lv_bipush (v := (-9)) hx hb dX12_say_105 (by decide) ?_
            refine lv_icmp_eq (tgt := 113) hx hb dX12_say_107 (by decide) (fun c9 => ?_) (fun c9 => ?_)
            · have f9 := (ti_eq (a := z8_0.toInt) (b := (-9)) rfl (by decide)).mp c9
              refine lv_aload_n hx hb dX12_say_113 rfl (lv_at hl 3 rfl) ?_
              refine mget_8 (i := (upd i 15 0)) (v := (i 8)) rfl hx hb hts (fun _ h => List.mem_cons_of_mem _ (List.mem_append_right _ h)) hown hK hP (hts (.fieldLink RX12 202 "TalePlayModel" "sentences" "I") (by decide +kernel)) dX12_say_114 ?_
              refine lv_sipush (v := 200) hx hb dX12_say_117 (by decide) ?_
              refine lv_icmp_ne (tgt := 126) hx hb dX12_say_120 (by decide) (fun c10 => ?_) (fun c10 => ?_)
              · have f10 := mt (ti_eq (a := (i 8).toInt) (b := 200) rfl (by decide)).mpr c10
                refine lv_iload hx hb dX12_say_126 (lv_at hl 1 rfl) ?_
                refine lv_if_ne (tgt := 137) hx hb dX12_say_128 (by decide) (fun c11 => ?_) (fun c11 => ?_)
                · have f11 := mt (ti_eq (a := z7_0.toInt) (b := 0) rfl (by decide)).mpr c11
                  refine lv_iload_n hx hb dX12_say_137 rfl (lv_at hl 4 rfl) ?_
                  refine lv_iconst (v := 5) hx hb dX12_say_138 (by decide) ?_
                  have jn12 : ∀ (i12 : Nat → Int32) (q12 : Int64) (c12 : Nat → Nat → Int32) (d12 : Nat → Nat → Int64) (z12_0 : Int32), mInv i12 c12 → (∀ k, k ∉ ([15] : List Nat) → i12 k = i k) → (∀ k, k ∉ ([14] : List Nat) → c12 k = c k) → (z12_0.toInt = 0 ∨ z12_0.toInt = 1) → (Im (z12_0.toInt = 0) (Im (f.toInt < 5) (pL (c 9) (c 10) (c 13) (i 8).toInt w1.toInt = -9 ∧ ¬ Ch (fP (c 9) (c 10) (c 11) (c 13) (i 8).toInt) w2.toInt w1.toInt))) → ∀ (H : Heap) (locs : List Loc) (ls : Array Slot), va_P D vwCl (mW o a t i12 q12 c12 d12) H → va_D A (mW o a t i12 q12 c12 d12) → va_S A s.heap H locs → lv_has ls 9 [(7, .int z8_0), (6, .int z7_0), (5, .int z5_0), (0, .ref o), (1, .int f), (2, .int w1), (3, .int w2), (4, .int w3)] → W p l e (headSpec wm_X12_say ({ frames := 5, cells := 0, slots := 0, locals := 110 })).room s m ([.ref o, .int f, .int w1, .int w2, .int w3] : List Value).toArray below meth cd H locs 0 0 (MQ below (va_Qi (fun (r : Int32) (u : MS) => True ∧ mInv u.1 u.2.2.1 ∧ (∀ k, k ∉ ([0, 8, 15, 22, 27] : List Nat) → u.1 k = i k) ∧ (∀ k, k ∉ ([1, 9, 10, 11, 12, 13, 14] : List Nat) → u.2.2.1 k = c k) ∧ (SJ (u.2.2.1 3) (u.2.2.1 6) (u.2.2.1 9) (u.2.2.1 10) (u.2.2.1 11) (u.2.2.1 13) (u.1 2).toInt (u.1 5).toInt (u.1 8).toInt) ∧ (TJ (u.2.2.1 3) (u.2.2.1 6) (u.2.2.1 23) (u.2.2.1 24) (u.2.2.1 29) (u.2.2.1 30) (u.1 5).toInt (u.1 22).toInt (u.1 27).toInt)) (oC D A (fun u : MS => mW o a t u.1 u.2.1 u.2.2.1 u.2.2.2) (fun _ => [])) A) ([.ref o, .int f, .int w1, .int w2, .int w3] : List Value).toArray s 0 0 A) (F0 m 190 ls [.int z12_0]) := by
                    intro i12 q12 c12 d12 z12_0 hI hfi hfc hs12_0 hz12_0 H locs ls hP hD hS hl
                    refine lv_istore (lv' := [(8, .int z12_0), (7, .int z8_0), (6, .int z7_0), (5, .int z5_0), (0, .ref o), (1, .int f), (2, .int w1), (3, .int w2), (4, .int w3)]) hx hb dX12_say_190 hl (by decide) rfl (fun ls hl => ?_)
                    refine lv_iload hx hb dX12_say_192 (lv_at hl 0 rfl) ?_
                    refine lv_if_eq (tgt := 200) hx hb dX12_say_194 (by decide) (fun c13 => ?_) (fun c13 => ?_)
                    · have f13 := (ti_eq (a := z12_0.toInt) (b := 0) rfl (by decide)).mp c13
                      have hc0 := hfc
                      have hi0 := hfi
                      have hFF : Im (f.toInt < 5) (¬ Kd (c 3) (c 6) w1.toInt 0) ∧ Im (f.toInt = 5) (Kd (c 3) (c 6) w1.toInt 0 ∧ (Kd (c 3) (c 6) w2.toInt 0 ∨ Kd (c 3) (c 6) w2.toInt 2)) := hz7_0 (by omega)
                      have hBar : Im (f.toInt < 5) (pL (c 9) (c 10) (c 13) (i 8).toInt w1.toInt = -9 ∧ ¬ Ch (fP (c 9) (c 10) (c 11) (c 13) (i 8).toInt) w2.toInt w1.toInt) := hz12_0 (by omega)
                      have rb5_i12 : 0 ≤ (i12 5).toInt ∧ (i12 5).toInt ≤ 30 := hI.1 5
                      have re5_i12 : (i12 5).toInt = (i 5).toInt := congrArg Int32.toInt (hfi 5 (by decide))
                      have rb8_i12 : 0 ≤ (i12 8).toInt ∧ (i12 8).toInt ≤ 200 := hI.1 8
                      have re8_i12 : (i12 8).toInt = (i 8).toInt := congrArg Int32.toInt (hfi 8 (by decide))
                      refine lv_aload_n hx hb dX12_say_200 rfl (lv_at hl 4 rfl) ?_
                      refine mget_9 hx hb hts (fun _ h => List.mem_cons_of_mem _ (List.mem_append_right _ h)) hown hK hP (hts (.fieldLink RX12 25 "TalePlayModel" "form" "[I") (by decide +kernel)) dX12_say_201 ?_
                      refine lv_aload_n hx hb dX12_say_204 rfl (lv_at hl 4 rfl) ?_
                      refine mget_8 (v := (i12 8)) rfl hx hb hts (fun _ h => List.mem_cons_of_mem _ (List.mem_append_right _ h)) hown hK hP (hts (.fieldLink RX12 202 "TalePlayModel" "sentences" "I") (by decide +kernel)) dX12_say_205 ?_
                      refine lv_iload_n hx hb dX12_say_208 rfl (lv_at hl 5 rfl) ?_
                      refine mst_9 hx hb hK hP hD hS (vp_in_iff.mpr (by have h9 : (i12 8).toInt = (i12 8).toInt := rfl; omega)) dX12_say_209 (fun H locs hP hD hS => ?_)
                      have hI := mInv_c hI (k := 9) (j := ((i12 8) : Int32).toNatClampNeg) (x := f) (show 0 ≤ (f : Int32).toInt ∧ (f : Int32).toInt ≤ 7 from by omega)
                      have hfc : ∀ k, k ∉ ([9, 14] : List Nat) → (updA c12 9 ((i12 8) : Int32).toNatClampNeg f) k = c k := fr_cz hfc (by decide) (by decide)
                      refine lv_aload_n hx hb dX12_say_210 rfl (lv_at hl 4 rfl) ?_
                      refine mget_10 hx hb hts (fun _ h => List.mem_cons_of_mem _ (List.mem_append_right _ h)) hown hK hP (hts (.fieldLink RX12 28 "TalePlayModel" "left" "[I") (by decide +kernel)) dX12_say_211 ?_
                      refine lv_aload_n hx hb dX12_say_214 rfl (lv_at hl 4 rfl) ?_
                      refine mget_8 (v := (i12 8)) rfl hx hb hts (fun _ h => List.mem_cons_of_mem _ (List.mem_append_right _ h)) hown hK hP (hts (.fieldLink RX12 202 "TalePlayModel" "sentences" "I") (by decide +kernel)) dX12_say_215 ?_
                      refine lv_iload_n hx hb dX12_say_218 rfl (lv_at hl 6 rfl) ?_
                      refine mst_10 hx hb hK hP hD hS (vp_in_iff.mpr (by have h9 : (i12 8).toInt = (i12 8).toInt := rfl; omega)) dX12_say_219 (fun H locs hP hD hS => ?_)
                      have hI := mInv_c hI (k := 10) (j := ((i12 8) : Int32).toNatClampNeg) (x := w1) (show 0 ≤ (w1 : Int32).toInt ∧ (w1 : Int32).toInt ≤ 29 from by omega)
                      have hfc : ∀ k, k ∉ ([9, 10, 14] : List Nat) → (updA (updA c12 9 ((i12 8) : Int32).toNatClampNeg f) 10 ((i12 8) : Int32).toNatClampNeg w1) k = c k := fr_cz hfc (by decide) (by decide)
                      refine lv_aload_n hx hb dX12_say_220 rfl (lv_at hl 4 rfl) ?_
                      refine mget_11 hx hb hts (fun _ h => List.mem_cons_of_mem _ (List.mem_append_right _ h)) hown hK hP (hts (.fieldLink RX12 31 "TalePlayModel" "middle" "[I") (by decide +kernel)) dX12_say_221 ?_
                      refine lv_aload_n hx hb dX12_say_224 rfl (lv_at hl 4 rfl) ?_
                      refine mget_8 (v := (i12 8)) rfl hx hb hts (fun _ h => List.mem_cons_of_mem _ (List.mem_append_right _ h)) hown hK hP (hts (.fieldLink RX12 202 "TalePlayModel" "sentences" "I") (by decide +kernel)) dX12_say_225 ?_
                      refine lv_iload_n hx hb dX12_say_228 rfl (lv_at hl 7 rfl) ?_
                      refine mst_11 hx hb hK hP hD hS (vp_in_iff.mpr (by have h9 : (i12 8).toInt = (i12 8).toInt := rfl; omega)) dX12_say_229 (fun H locs hP hD hS => ?_)
                      have hI := mInv_c hI (k := 11) (j := ((i12 8) : Int32).toNatClampNeg) (x := w2) (show 0 ≤ (w2 : Int32).toInt ∧ (w2 : Int32).toInt ≤ 29 from by omega)
                      have hfc : ∀ k, k ∉ ([9, 10, 11, 14] : List Nat) → (updA (updA (updA c12 9 ((i12 8) : Int32).toNatClampNeg f) 10 ((i12 8) : Int32).toNatClampNeg w1) 11 ((i12 8) : Int32).toNatClampNeg w2) k = c k := fr_cz hfc (by decide) (by decide)
                      refine lv_aload_n hx hb dX12_say_230 rfl (lv_at hl 4 rfl) ?_
                      refine mget_12 hx hb hts (fun _ h => List.mem_cons_of_mem _ (List.mem_append_right _ h)) hown hK hP (hts (.fieldLink RX12 34 "TalePlayModel" "right" "[I") (by decide +kernel)) dX12_say_231 ?_
                      refine lv_aload_n hx hb dX12_say_234 rfl (lv_at hl 4 rfl) ?_
                      refine mget_8 (v := (i12 8)) rfl hx hb hts (fun _ h => List.mem_cons_of_mem _ (List.mem_append_right _ h)) hown hK hP (hts (.fieldLink RX12 202 "TalePlayModel" "sentences" "I") (by decide +kernel)) dX12_say_235 ?_
                      refine lv_iload hx hb dX12_say_238 (lv_at hl 3 rfl) ?_
                      refine mst_12 hx hb hK hP hD hS (vp_in_iff.mpr (by have h9 : (i12 8).toInt = (i12 8).toInt := rfl; omega)) dX12_say_240 (fun H locs hP hD hS => ?_)
                      have hI := mInv_c hI (k := 12) (j := ((i12 8) : Int32).toNatClampNeg) (x := z5_0) (show 0 ≤ (z5_0 : Int32).toInt ∧ (z5_0 : Int32).toInt ≤ 9 from by omega)
                      have hfc : ∀ k, k ∉ ([9, 10, 11, 12, 14] : List Nat) → (updA (updA (updA (updA c12 9 ((i12 8) : Int32).toNatClampNeg f) 10 ((i12 8) : Int32).toNatClampNeg w1) 11 ((i12 8) : Int32).toNatClampNeg w2) 12 ((i12 8) : Int32).toNatClampNeg z5_0) k = c k := fr_cz hfc (by decide) (by decide)
                      refine lv_aload_n hx hb dX12_say_241 rfl (lv_at hl 4 rfl) ?_
                      refine mget_13 hx hb hts (fun _ h => List.mem_cons_of_mem _ (List.mem_append_right _ h)) hown hK hP (hts (.fieldLink RX12 37 "TalePlayModel" "isSaid" "[Z") (by decide +kernel)) dX12_say_242 ?_
                      refine lv_aload_n hx hb dX12_say_245 rfl (lv_at hl 4 rfl) ?_
                      refine mget_8 (v := (i12 8)) rfl hx hb hts (fun _ h => List.mem_cons_of_mem _ (List.mem_append_right _ h)) hown hK hP (hts (.fieldLink RX12 202 "TalePlayModel" "sentences" "I") (by decide +kernel)) dX12_say_246 ?_
                      refine lv_iconst (v := 1) hx hb dX12_say_249 (by decide) ?_
                      refine mst_13 hx hb hK hP hD hS (vp_in_iff.mpr (by have h9 : (i12 8).toInt = (i12 8).toInt := rfl; omega)) (nb_z (show 0 ≤ (1 : Int32).toInt ∧ (1 : Int32).toInt ≤ 1 from by have h9 : (1 : Int32).toInt = 1 := (by decide); omega)) dX12_say_250 (fun H locs hP hD hS => ?_)
                      have hI := mInv_c hI (k := 13) (j := ((i12 8) : Int32).toNatClampNeg) (x := 1) (show 0 ≤ (1 : Int32).toInt ∧ (1 : Int32).toInt ≤ 1 from by have h9 : (1 : Int32).toInt = 1 := (by decide); omega)
                      have hfc : ∀ k, k ∉ ([9, 10, 11, 12, 13, 14] : List Nat) → (updA (updA (updA (updA (updA c12 9 ((i12 8) : Int32).toNatClampNeg f) 10 ((i12 8) : Int32).toNatClampNeg w1) 11 ((i12 8) : Int32).toNatClampNeg w2) 12 ((i12 8) : Int32).toNatClampNeg z5_0) 13 ((i12 8) : Int32).toNatClampNeg 1) k = c k := fr_cz hfc (by decide) (by decide)
                      refine lv_aload_n hx hb dX12_say_251 rfl (lv_at hl 4 rfl) ?_
                      refine lv_dup hx hb dX12_say_252 rfl ?_
                      refine mget_8 (v := (i12 8)) rfl hx hb hts (fun _ h => List.mem_cons_of_mem _ (List.mem_append_right _ h)) hown hK hP (hts (.fieldLink RX12 202 "TalePlayModel" "sentences" "I") (by decide +kernel)) dX12_say_253 ?_
                      refine lv_iconst (v := 1) hx hb dX12_say_256 (by decide) ?_
                      refine lv_iadd hx hb dX12_say_257 ?_
                      refine lv_topi (fun x14 ex14 => ?_)
                      have tx14 := ti_add (a := (i12 8).toInt) (b := 1) ex14 rfl (by decide) (by omega) (by omega)
                      refine mput_8 hx hb hts (fun _ h => List.mem_cons_of_mem _ (List.mem_append_right _ h)) hown hK hP hD hS (hts (.fieldLink RX12 202 "TalePlayModel" "sentences" "I") (by decide +kernel)) rfl rfl dX12_say_258 (fun H locs hP hD hS => ?_)
                      have hI := mInv_i hI (k := 8) (v := x14) (show 0 ≤ (x14 : Int32).toInt ∧ (x14 : Int32).toInt ≤ 200 from by have h9 : x14.toInt = ((i12 8).toInt + 1) := tx14; omega)
                      have hfi : ∀ k, k ∉ ([8, 15] : List Nat) → (upd i12 8 x14) k = i k := fr_iz hfi (by decide) (by decide)
                      refine lv_aload_n hx hb dX12_say_261 rfl (lv_at hl 4 rfl) ?_
                      refine al_callv (va_runV (As := []) (rest := []) ⟨hx, hb, hml, hown, hts⟩ (s_X12_endTale l D H.size o a t (upd i12 8 x14) q12 (updA (updA (updA (updA (updA c12 9 ((i12 8) : Int32).toNatClampNeg f) 10 ((i12 8) : Int32).toNatClampNeg w1) 11 ((i12 8) : Int32).toNatClampNeg w2) 12 ((i12 8) : Int32).toNatClampNeg z5_0) 13 ((i12 8) : Int32).toNatClampNeg 1) d12  hI ) (cwV 0 hts gm_X12_say_X12_endTale rfl rfl rfl (by decide +kernel) ⟨Nat.le_of_ble_eq_true rfl, Nat.le_of_ble_eq_true rfl⟩) (pB_V hK hP hD (ci := 12) (q0 := 0) rfl rfl) rfl rfl hl.1 rfl (lv_room (Nat.le_of_ble_eq_true rfl)) dX12_say_262 ⟨Nat.le_of_ble_eq_true rfl, Nat.le_of_ble_eq_true rfl⟩) hS hA hP hD (fun u15 H locs hw15 hP hD hS => ?_)
                      obtain ⟨i15, q15, c15, d15⟩ := u15
                      have hw15 : True ∧ mInv i15 c15 ∧ (∀ k, k ∉ ([22, 27] : List Nat) → i15 k = (upd i12 8 x14) k) ∧ (∀ k, k ∉ ([] : List Nat) → c15 k = (updA (updA (updA (updA (updA c12 9 ((i12 8) : Int32).toNatClampNeg f) 10 ((i12 8) : Int32).toNatClampNeg w1) 11 ((i12 8) : Int32).toNatClampNeg w2) 12 ((i12 8) : Int32).toNatClampNeg z5_0) 13 ((i12 8) : Int32).toNatClampNeg 1) k) ∧ ((i15 22).toInt = -9) ∧ ((i15 27).toInt = 0) := hw15
                      obtain ⟨hw15, hI, hei15, hec15, hxp15_0, hxp15_1⟩ := hw15
                      have hxp15_0 : (i15 22).toInt = -9 := hxp15_0
                      have hxp15_1 : (i15 27).toInt = 0 := hxp15_1
                      have hfi : ∀ k, k ∉ ([8, 15, 22, 27] : List Nat) → i15 k = i k := fr_z hfi hei15 (by decide) (by decide)
                      have hfc : ∀ k, k ∉ ([9, 10, 11, 12, 13, 14] : List Nat) → c15 k = c k := fr_z hfc hec15 (by decide) (by decide)
                      have hP : va_P D vwCl (mW o a t i15 q15 c15 d15) H := hP
                      have hD : va_D A (mW o a t i15 q15 c15 d15) := hD
                      refine lv_aload_n hx hb dX12_say_265 rfl (lv_at hl 4 rfl) ?_
                      refine mget_8 (v := (i15 8)) rfl hx hb hts (fun _ h => List.mem_cons_of_mem _ (List.mem_append_right _ h)) hown hK hP (hts (.fieldLink RX12 202 "TalePlayModel" "sentences" "I") (by decide +kernel)) dX12_say_266 ?_
                      have rb8_i15 : 0 ≤ (i15 8).toInt ∧ (i15 8).toInt ≤ 200 := hI.1 8
                      refine lv_iconst (v := 1) hx hb dX12_say_269 (by decide) ?_
                      refine lv_isub hx hb dX12_say_270 ?_
                      refine lv_topi (fun x16 ex16 => ?_)
                      have tx16 := ti_sub (a := (i15 8).toInt) (b := 1) ex16 rfl (by decide) (by omega) (by omega)
                      exact rw_iret (i15, q15, c15, d15) hx hb hr hlocks hS (hK.sub (tys' := []) [] rfl) hP hD dX12_say_271 ⟨trivial, hI, fr_w hfi (by decide), fr_w hfc (by decide), (show SJ (c15 3) (c15 6) (c15 9) (c15 10) (c15 11) (c15 13) ((i15 2) : Int32).toInt ((i15 5) : Int32).toInt ((i15 8) : Int32).toInt from by rw [show c15 3 = (updA (updA (updA (updA (updA c12 9 ((i12 8) : Int32).toNatClampNeg f) 10 ((i12 8) : Int32).toNatClampNeg w1) 11 ((i12 8) : Int32).toNatClampNeg w2) 12 ((i12 8) : Int32).toNatClampNeg z5_0) 13 ((i12 8) : Int32).toNatClampNeg 1) 3 from hec15 3 (by decide), show c15 6 = (updA (updA (updA (updA (updA c12 9 ((i12 8) : Int32).toNatClampNeg f) 10 ((i12 8) : Int32).toNatClampNeg w1) 11 ((i12 8) : Int32).toNatClampNeg w2) 12 ((i12 8) : Int32).toNatClampNeg z5_0) 13 ((i12 8) : Int32).toNatClampNeg 1) 6 from hec15 6 (by decide), show c15 9 = (updA (updA (updA (updA (updA c12 9 ((i12 8) : Int32).toNatClampNeg f) 10 ((i12 8) : Int32).toNatClampNeg w1) 11 ((i12 8) : Int32).toNatClampNeg w2) 12 ((i12 8) : Int32).toNatClampNeg z5_0) 13 ((i12 8) : Int32).toNatClampNeg 1) 9 from hec15 9 (by decide), show c15 10 = (updA (updA (updA (updA (updA c12 9 ((i12 8) : Int32).toNatClampNeg f) 10 ((i12 8) : Int32).toNatClampNeg w1) 11 ((i12 8) : Int32).toNatClampNeg w2) 12 ((i12 8) : Int32).toNatClampNeg z5_0) 13 ((i12 8) : Int32).toNatClampNeg 1) 10 from hec15 10 (by decide), show c15 11 = (updA (updA (updA (updA (updA c12 9 ((i12 8) : Int32).toNatClampNeg f) 10 ((i12 8) : Int32).toNatClampNeg w1) 11 ((i12 8) : Int32).toNatClampNeg w2) 12 ((i12 8) : Int32).toNatClampNeg z5_0) 13 ((i12 8) : Int32).toNatClampNeg 1) 11 from hec15 11 (by decide), show c15 13 = (updA (updA (updA (updA (updA c12 9 ((i12 8) : Int32).toNatClampNeg f) 10 ((i12 8) : Int32).toNatClampNeg w1) 11 ((i12 8) : Int32).toNatClampNeg w2) 12 ((i12 8) : Int32).toNatClampNeg z5_0) 13 ((i12 8) : Int32).toNatClampNeg 1) 13 from hec15 13 (by decide), show i15 2 = (upd i12 8 x14) 2 from hei15 2 (by decide), show i15 5 = (upd i12 8 x14) 5 from hei15 5 (by decide), show i15 8 = (upd i12 8 x14) 8 from hei15 8 (by decide)]; show SJ (c12 3) (c12 6) (upd (c12 9) (i12 8 : Int32).toNatClampNeg f) (upd (c12 10) (i12 8 : Int32).toNatClampNeg w1) (upd (c12 11) (i12 8 : Int32).toNatClampNeg w2) (upd (c12 13) (i12 8 : Int32).toNatClampNeg 1) (i12 2).toInt (i12 5).toInt x14.toInt; rw [tx14, hc0 3 (by decide), hc0 6 (by decide), hc0 9 (by decide), hc0 10 (by decide), hc0 11 (by decide), hc0 13 (by decide), hi0 2 (by decide), hi0 5 (by decide), hi0 8 (by decide)]; exact SJ_add (n := (i 8).toInt) hs_S (mI_mi hI0) (by omega) (by omega) (by omega) (fun h9 => by omega) (hFF.1) (hFF.2) hBar), (show TJ (c15 3) (c15 6) (c15 23) (c15 24) (c15 29) (c15 30) ((i15 5) : Int32).toInt ((i15 22) : Int32).toInt ((i15 27) : Int32).toInt from TJ_no hxp15_0)⟩
                    · have f13 := mt (ti_eq (a := z12_0.toInt) (b := 0) rfl (by decide)).mpr c13
                      refine lv_bipush (v := (-4)) hx hb dX12_say_197 (by decide) ?_
                      exact rw_iret (i12, q12, c12, d12) hx hb hr hlocks hS (hK.sub (tys' := []) [] rfl) hP hD dX12_say_199 ⟨trivial, hI, fr_w hfi (by decide), fr_w hfc (by decide), (show SJ (c12 3) (c12 6) (c12 9) (c12 10) (c12 11) (c12 13) ((i12 2) : Int32).toInt ((i12 5) : Int32).toInt ((i12 8) : Int32).toInt from by rw [show c12 3 = c 3 from hfc 3 (by decide), show c12 6 = c 6 from hfc 6 (by decide), show c12 9 = c 9 from hfc 9 (by decide), show c12 10 = c 10 from hfc 10 (by decide), show c12 11 = c 11 from hfc 11 (by decide), show c12 13 = c 13 from hfc 13 (by decide), show i12 2 = i 2 from hfi 2 (by decide), show i12 5 = i 5 from hfi 5 (by decide), show i12 8 = i 8 from hfi 8 (by decide)]; exact hs_S), (show TJ (c12 3) (c12 6) (c12 23) (c12 24) (c12 29) (c12 30) ((i12 5) : Int32).toInt ((i12 22) : Int32).toInt ((i12 27) : Int32).toInt from by rw [show c12 3 = c 3 from hfc 3 (by decide), show c12 6 = c 6 from hfc 6 (by decide), show c12 23 = c 23 from hfc 23 (by decide), show c12 24 = c 24 from hfc 24 (by decide), show c12 29 = c 29 from hfc 29 (by decide), show c12 30 = c 30 from hfc 30 (by decide), show i12 5 = i 5 from hfi 5 (by decide), show i12 22 = i 22 from hfi 22 (by decide), show i12 27 = i 27 from hfi 27 (by decide)]; exact hs_J)⟩
                  refine lv_icmp_ge (tgt := 152) hx hb dX12_say_139 (by decide) (fun c17 => ?_) (fun c17 => ?_)
                  · have f17 := (ti_le (a := 5) (b := f.toInt) (by decide) rfl).mp c17
                    refine lv_iload_n hx hb dX12_say_152 rfl (lv_at hl 4 rfl) ?_
                    refine lv_iconst (v := 5) hx hb dX12_say_153 (by decide) ?_
                    refine lv_icmp_ne (tgt := 168) hx hb dX12_say_154 (by decide) (fun c18 => ?_) (fun c18 => ?_)
                    · have f18 := mt (ti_eq (a := f.toInt) (b := 5) rfl (by decide)).mpr c18
                      refine lv_iload_n hx hb dX12_say_168 rfl (lv_at hl 4 rfl) ?_
                      refine lv_bipush (v := 6) hx hb dX12_say_169 (by decide) ?_
                      refine lv_icmp_ne (tgt := 185) hx hb dX12_say_171 (by decide) (fun c19 => ?_) (fun c19 => ?_)
                      · have f19 := mt (ti_eq (a := f.toInt) (b := 6) rfl (by decide)).mpr c19
                        refine lv_aload_n hx hb dX12_say_185 rfl (lv_at hl 3 rfl) ?_
                        refine lv_iload_n hx hb dX12_say_186 rfl (lv_at hl 6 rfl) ?_
                        refine al_calli (va_runV (As := [.int w2]) (rest := []) ⟨hx, hb, hml, hown, hts⟩ (s_X12_isKeyBarred l D H.size o a t (upd i 15 0) q c d w2 hI (show 0 ≤ w2.toInt ∧ w2.toInt ≤ 29 from by have h60 : (0 : Int32).toInt = 0 := (by decide); omega) (show (0 : Int32).toInt = 0 from by have h60 : (0 : Int32).toInt = 0 := (by decide); omega)) (cwV 1 hts gm_X12_say_X12_isKeyBarred rfl rfl rfl (by decide +kernel) ⟨Nat.le_of_ble_eq_true rfl, Nat.le_of_ble_eq_true rfl⟩) (pB_V hK hP hD (ci := 12) (q0 := 0) rfl rfl) rfl rfl hl.1 rfl (lv_room (Nat.le_of_ble_eq_true rfl)) dX12_say_187 ⟨Nat.le_of_ble_eq_true rfl, Nat.le_of_ble_eq_true rfl⟩) hS hA hP hD (fun r20 u20 H locs hw20 hP hD hS => ?_)
                        obtain ⟨i20, q20, c20, d20⟩ := u20
                        have hw20 : (0 ≤ r20.toInt ∧ r20.toInt ≤ 1) ∧ mInv i20 c20 ∧ (∀ k, k ∉ ([15] : List Nat) → i20 k = (upd i 15 0) k) ∧ (∀ k, k ∉ ([14] : List Nat) → c20 k = c k) := hw20
                        obtain ⟨hw20, hI, hei20, hec20⟩ := hw20
                        have hfi : ∀ k, k ∉ ([15] : List Nat) → i20 k = i k := fr_z hfi hei20 (by decide) (by decide)
                        have hfc : ∀ k, k ∉ ([14] : List Nat) → c20 k = c k := fr_z hfc hec20 (by decide) (by decide)
                        have hP : va_P D vwCl (mW o a t i20 q20 c20 d20) H := hP
                        have hD : va_D A (mW o a t i20 q20 c20 d20) := hD
                        exact jn12 i20 q20 c20 d20  r20 hI (fr_w hfi (by decide)) (fr_w hfc (by decide)) (show r20.toInt = 0 ∨ r20.toInt = 1 from by omega) (show Im (r20.toInt = 0) (Im (f.toInt < 5) (pL (c 9) (c 10) (c 13) (i 8).toInt w1.toInt = -9 ∧ ¬ Ch (fP (c 9) (c 10) (c 11) (c 13) (i 8).toInt) w2.toInt w1.toInt)) from fun _ h8 => by exfalso; omega) _ _ _ hP hD hS (lv_sub hl [0, 1, 2, 3, 4, 5, 6, 7] rfl)
                      · have f19 := (ti_eq (a := f.toInt) (b := 6) rfl (by decide)).mp c19
                        refine lv_aload_n hx hb dX12_say_174 rfl (lv_at hl 3 rfl) ?_
                        refine lv_iload_n hx hb dX12_say_175 rfl (lv_at hl 5 rfl) ?_
                        refine lv_iload_n hx hb dX12_say_176 rfl (lv_at hl 6 rfl) ?_
                        refine lv_iload hx hb dX12_say_177 (lv_at hl 7 rfl) ?_
                        refine al_calli (va_runV (As := [.int w1, .int w2, .int w3]) (rest := []) ⟨hx, hb, hml, hown, hts⟩ (s_X12_isFlagBarred l D H.size o a t (upd i 15 0) q c d w1 w2 w3 hI (show 0 ≤ w1.toInt ∧ w1.toInt ≤ 29 from by have h60 : (0 : Int32).toInt = 0 := (by decide); omega) (show 0 ≤ w2.toInt ∧ w2.toInt ≤ 5 from by have h60 : (0 : Int32).toInt = 0 := (by decide); omega) (show 0 ≤ w3.toInt ∧ w3.toInt ≤ 1 from by have h60 : (0 : Int32).toInt = 0 := (by decide); omega) (show (0 : Int32).toInt = 0 from by have h60 : (0 : Int32).toInt = 0 := (by decide); omega)) (cwV 3 hts gm_X12_say_X12_isFlagBarred rfl rfl rfl (by decide +kernel) ⟨Nat.le_of_ble_eq_true rfl, Nat.le_of_ble_eq_true rfl⟩) (pB_V hK hP hD (ci := 12) (q0 := 0) rfl rfl) rfl rfl hl.1 rfl (lv_room (Nat.le_of_ble_eq_true rfl)) dX12_say_179 ⟨Nat.le_of_ble_eq_true rfl, Nat.le_of_ble_eq_true rfl⟩) hS hA hP hD (fun r21 u21 H locs hw21 hP hD hS => ?_)
                        obtain ⟨i21, q21, c21, d21⟩ := u21
                        have hw21 : (0 ≤ r21.toInt ∧ r21.toInt ≤ 1) ∧ mInv i21 c21 ∧ (∀ k, k ∉ ([15] : List Nat) → i21 k = (upd i 15 0) k) ∧ (∀ k, k ∉ ([14] : List Nat) → c21 k = c k) := hw21
                        obtain ⟨hw21, hI, hei21, hec21⟩ := hw21
                        have hfi : ∀ k, k ∉ ([15] : List Nat) → i21 k = i k := fr_z hfi hei21 (by decide) (by decide)
                        have hfc : ∀ k, k ∉ ([14] : List Nat) → c21 k = c k := fr_z hfc hec21 (by decide) (by decide)
                        have hP : va_P D vwCl (mW o a t i21 q21 c21 d21) H := hP
                        have hD : va_D A (mW o a t i21 q21 c21 d21) := hD
                        refine lv_goto (tgt := 190) hx hb dX12_say_182 (by decide) ?_
                        exact jn12 i21 q21 c21 d21  r21 hI (fr_w hfi (by decide)) (fr_w hfc (by decide)) (show r21.toInt = 0 ∨ r21.toInt = 1 from by omega) (show Im (r21.toInt = 0) (Im (f.toInt < 5) (pL (c 9) (c 10) (c 13) (i 8).toInt w1.toInt = -9 ∧ ¬ Ch (fP (c 9) (c 10) (c 11) (c 13) (i 8).toInt) w2.toInt w1.toInt)) from fun _ h8 => by exfalso; omega) _ _ _ hP hD hS (lv_sub hl [0, 1, 2, 3, 4, 5, 6, 7] rfl)
                    · have f18 := (ti_eq (a := f.toInt) (b := 5) rfl (by decide)).mp c18
                      refine lv_aload_n hx hb dX12_say_157 rfl (lv_at hl 3 rfl) ?_
                      refine lv_iload_n hx hb dX12_say_158 rfl (lv_at hl 5 rfl) ?_
                      refine lv_iload_n hx hb dX12_say_159 rfl (lv_at hl 6 rfl) ?_
                      refine lv_iload hx hb dX12_say_160 (lv_at hl 7 rfl) ?_
                      refine al_calli (va_runV (As := [.int w1, .int w2, .int w3]) (rest := []) ⟨hx, hb, hml, hown, hts⟩ (s_X12_isExitBarred l D H.size o a t (upd i 15 0) q c d w1 w2 w3 hI (show 0 ≤ w1.toInt ∧ w1.toInt ≤ 29 from by have h60 : (0 : Int32).toInt = 0 := (by decide); omega) (show 0 ≤ w2.toInt ∧ w2.toInt ≤ 29 from by have h60 : (0 : Int32).toInt = 0 := (by decide); omega) (show (0 : Int32).toInt = 0 from by have h60 : (0 : Int32).toInt = 0 := (by decide); omega)) (cwV 3 hts gm_X12_say_X12_isExitBarred rfl rfl rfl (by decide +kernel) ⟨Nat.le_of_ble_eq_true rfl, Nat.le_of_ble_eq_true rfl⟩) (pB_V hK hP hD (ci := 12) (q0 := 0) rfl rfl) rfl rfl hl.1 rfl (lv_room (Nat.le_of_ble_eq_true rfl)) dX12_say_162 ⟨Nat.le_of_ble_eq_true rfl, Nat.le_of_ble_eq_true rfl⟩) hS hA hP hD (fun r22 u22 H locs hw22 hP hD hS => ?_)
                      obtain ⟨i22, q22, c22, d22⟩ := u22
                      have hw22 : (0 ≤ r22.toInt ∧ r22.toInt ≤ 1) ∧ mInv i22 c22 ∧ (∀ k, k ∉ ([15] : List Nat) → i22 k = (upd i 15 0) k) ∧ (∀ k, k ∉ ([14] : List Nat) → c22 k = c k) := hw22
                      obtain ⟨hw22, hI, hei22, hec22⟩ := hw22
                      have hfi : ∀ k, k ∉ ([15] : List Nat) → i22 k = i k := fr_z hfi hei22 (by decide) (by decide)
                      have hfc : ∀ k, k ∉ ([14] : List Nat) → c22 k = c k := fr_z hfc hec22 (by decide) (by decide)
                      have hP : va_P D vwCl (mW o a t i22 q22 c22 d22) H := hP
                      have hD : va_D A (mW o a t i22 q22 c22 d22) := hD
                      refine lv_goto (tgt := 190) hx hb dX12_say_165 (by decide) ?_
                      exact jn12 i22 q22 c22 d22  r22 hI (fr_w hfi (by decide)) (fr_w hfc (by decide)) (show r22.toInt = 0 ∨ r22.toInt = 1 from by omega) (show Im (r22.toInt = 0) (Im (f.toInt < 5) (pL (c 9) (c 10) (c 13) (i 8).toInt w1.toInt = -9 ∧ ¬ Ch (fP (c 9) (c 10) (c 11) (c 13) (i 8).toInt) w2.toInt w1.toInt)) from fun _ h8 => by exfalso; omega) _ _ _ hP hD hS (lv_sub hl [0, 1, 2, 3, 4, 5, 6, 7] rfl)
                  · have f17 := mt (ti_le (a := 5) (b := f.toInt) (by decide) rfl).mpr c17
                    refine lv_aload_n hx hb dX12_say_142 rfl (lv_at hl 3 rfl) ?_
                    refine lv_iload_n hx hb dX12_say_143 rfl (lv_at hl 4 rfl) ?_
                    refine lv_iload_n hx hb dX12_say_144 rfl (lv_at hl 5 rfl) ?_
                    refine lv_iload_n hx hb dX12_say_145 rfl (lv_at hl 6 rfl) ?_
                    have rb2_i : 6 ≤ (i 2).toInt ∧ (i 2).toInt ≤ 24 := hI.1 2
                    refine al_calli (va_runV (As := [.int f, .int w1, .int w2]) (rest := []) ⟨hx, hb, hml, hown, hts⟩ (s_X12_isPlaceBarred l D H.size o a t (upd i 15 0) q c d f w1 w2 hI (show 0 ≤ w1.toInt ∧ w1.toInt ≤ 29 from by have h60 : (0 : Int32).toInt = 0 := (by decide); omega) (show 0 ≤ w2.toInt ∧ w2.toInt ≤ 29 from by have h60 : (0 : Int32).toInt = 0 := (by decide); omega) (show (0 : Int32).toInt = 0 from by have h60 : (0 : Int32).toInt = 0 := (by decide); omega) (by rw [show (upd i 15 0) 2 = i 2 from hfi 2 (by decide), show (upd i 15 0) 5 = i 5 from hfi 5 (by decide), show (upd i 15 0) 8 = i 8 from hfi 8 (by decide)]; exact hs_S)) (cwV 3 hts gm_X12_say_X12_isPlaceBarred rfl rfl rfl (by decide +kernel) ⟨Nat.le_of_ble_eq_true rfl, Nat.le_of_ble_eq_true rfl⟩) (pB_V hK hP hD (ci := 12) (q0 := 0) rfl rfl) rfl rfl hl.1 rfl (lv_room (Nat.le_of_ble_eq_true rfl)) dX12_say_146 ⟨Nat.le_of_ble_eq_true rfl, Nat.le_of_ble_eq_true rfl⟩) hS hA hP hD (fun r23 u23 H locs hw23 hP hD hS => ?_)
                    obtain ⟨i23, q23, c23, d23⟩ := u23
                    have hw23 : ((0 ≤ r23.toInt ∧ r23.toInt ≤ 1) ∧ (Im (r23.toInt = 0) (pL (c 9) (c 10) (c 13) ((upd i 15 0) 8).toInt w1.toInt = -9 ∧ ¬ Ch (fP (c 9) (c 10) (c 11) (c 13) ((upd i 15 0) 8).toInt) w2.toInt w1.toInt))) ∧ mInv i23 c23 ∧ (∀ k, k ∉ ([15] : List Nat) → i23 k = (upd i 15 0) k) ∧ (∀ k, k ∉ ([14] : List Nat) → c23 k = c k) := hw23
                    obtain ⟨hw23, hI, hei23, hec23⟩ := hw23
                    obtain ⟨hw23, hr23_0⟩ := hw23
                    have hr23_0 : Im (r23.toInt = 0) (pL (c 9) (c 10) (c 13) (i 8).toInt w1.toInt = -9 ∧ ¬ Ch (fP (c 9) (c 10) (c 11) (c 13) (i 8).toInt) w2.toInt w1.toInt) := by have h9 := hr23_0; rw [show (upd i 15 0) 8 = i 8 from hfi 8 (by decide)] at h9; exact h9
                    have hfi : ∀ k, k ∉ ([15] : List Nat) → i23 k = i k := fr_z hfi hei23 (by decide) (by decide)
                    have hfc : ∀ k, k ∉ ([14] : List Nat) → c23 k = c k := fr_z hfc hec23 (by decide) (by decide)
                    have hP : va_P D vwCl (mW o a t i23 q23 c23 d23) H := hP
                    have hD : va_D A (mW o a t i23 q23 c23 d23) := hD
                    refine lv_goto (tgt := 190) hx hb dX12_say_149 (by decide) ?_
                    exact jn12 i23 q23 c23 d23  r23 hI (fr_w hfi (by decide)) (fr_w hfc (by decide)) (show r23.toInt = 0 ∨ r23.toInt = 1 from by omega) (show Im (r23.toInt = 0) (Im (f.toInt < 5) (pL (c 9) (c 10) (c 13) (i 8).toInt w1.toInt = -9 ∧ ¬ Ch (fP (c 9) (c 10) (c 11) (c 13) (i 8).toInt) w2.toInt w1.toInt)) from fun h9 h8 => hr23_0 h9) _ _ _ hP hD hS (lv_sub hl [0, 1, 2, 3, 4, 5, 6, 7] rfl)
                · have f11 := (ti_eq (a := z7_0.toInt) (b := 0) rfl (by decide)).mp c11
                  refine lv_aload_n hx hb dX12_say_131 rfl (lv_at hl 3 rfl) ?_
                  refine lv_iconst (v := 3) hx hb dX12_say_132 (by decide) ?_
                  refine al_calli (va_runV (As := [.int 3]) (rest := []) ⟨hx, hb, hml, hown, hts⟩ (s_X12_meets l D H.size o a t (upd i 15 0) q c d 3 hI (show 1 ≤ 3 ∧ 3 ≤ 6 from by have h90 : (3 : Int32).toInt = 3 := (by decide); have h60 : (0 : Int32).toInt = 0 := (by decide); omega)) (cwV 1 hts gm_X12_say_X12_meets rfl rfl rfl (by decide +kernel) ⟨Nat.le_of_ble_eq_true rfl, Nat.le_of_ble_eq_true rfl⟩) (pB_V hK hP hD (ci := 12) (q0 := 0) rfl rfl) rfl rfl hl.1 rfl (lv_room (Nat.le_of_ble_eq_true rfl)) dX12_say_133 ⟨Nat.le_of_ble_eq_true rfl, Nat.le_of_ble_eq_true rfl⟩) hS hA hP hD (fun r24 u24 H locs hw24 hP hD hS => ?_)
                  obtain ⟨i24, q24, c24, d24⟩ := u24
                  have hw24 : r24 = (-3) ∧ mInv i24 c24 ∧ (∀ k, k ∉ ([0] : List Nat) → i24 k = (upd i 15 0) k) ∧ (∀ k, k ∉ ([1] : List Nat) → c24 k = c k) := hw24
                  obtain ⟨hw24, hI, hei24, hec24⟩ := hw24
                  have hfi : ∀ k, k ∉ ([0, 15] : List Nat) → i24 k = i k := fr_z hfi hei24 (by decide) (by decide)
                  have hfc : ∀ k, k ∉ ([1] : List Nat) → c24 k = c k := fr_z hfc hec24 (by decide) (by decide)
                  have hP : va_P D vwCl (mW o a t i24 q24 c24 d24) H := hP
                  have hD : va_D A (mW o a t i24 q24 c24 d24) := hD
                  have hw24 : r24 = (-3) := hw24
                  subst hw24
                  exact rw_iret (i24, q24, c24, d24) hx hb hr hlocks hS (hK.sub (tys' := []) [] rfl) hP hD dX12_say_136 ⟨trivial, hI, fr_w hfi (by decide), fr_w hfc (by decide), (show SJ (c24 3) (c24 6) (c24 9) (c24 10) (c24 11) (c24 13) ((i24 2) : Int32).toInt ((i24 5) : Int32).toInt ((i24 8) : Int32).toInt from by rw [show c24 3 = c 3 from hfc 3 (by decide), show c24 6 = c 6 from hfc 6 (by decide), show c24 9 = c 9 from hfc 9 (by decide), show c24 10 = c 10 from hfc 10 (by decide), show c24 11 = c 11 from hfc 11 (by decide), show c24 13 = c 13 from hfc 13 (by decide), show i24 2 = i 2 from hfi 2 (by decide), show i24 5 = i 5 from hfi 5 (by decide), show i24 8 = i 8 from hfi 8 (by decide)]; exact hs_S), (show TJ (c24 3) (c24 6) (c24 23) (c24 24) (c24 29) (c24 30) ((i24 5) : Int32).toInt ((i24 22) : Int32).toInt ((i24 27) : Int32).toInt from by rw [show c24 3 = c 3 from hfc 3 (by decide), show c24 6 = c 6 from hfc 6 (by decide), show c24 23 = c 23 from hfc 23 (by decide), show c24 24 = c 24 from hfc 24 (by decide), show c24 29 = c 29 from hfc 29 (by decide), show c24 30 = c 30 from hfc 30 (by decide), show i24 5 = i 5 from hfi 5 (by decide), show i24 22 = i 22 from hfi 22 (by decide), show i24 27 = i 27 from hfi 27 (by decide)]; exact hs_J)⟩
              · have f10 := (ti_eq (a := (i 8).toInt) (b := 200) rfl (by decide)).mp c10
                refine lv_bipush (v := (-2)) hx hb dX12_say_123 (by decide) ?_
                exact rw_iret ((upd i 15 0), q, c, d) hx hb hr hlocks hS (hK.sub (tys' := []) [] rfl) hP hD dX12_say_125 ⟨trivial, hI, fr_w hfi (by decide), fr_w hfc (by decide), (show SJ (c 3) (c 6) (c 9) (c 10) (c 11) (c 13) ((i 2) : Int32).toInt ((i 5) : Int32).toInt ((i 8) : Int32).toInt from hs_S), (show TJ (c 3) (c 6) (c 23) (c 24) (c 29) (c 30) ((i 5) : Int32).toInt ((i 22) : Int32).toInt ((i 27) : Int32).toInt from hs_J)⟩
            · have f9 := mt (ti_eq (a := z8_0.toInt) (b := (-9)) rfl (by decide)).mpr c9
              refine lv_iload hx hb dX12_say_110 (lv_at hl 0 rfl) ?_
              exact rw_iret ((upd i 15 0), q, c, d) hx hb hr hlocks hS (hK.sub (tys' := []) [] rfl) hP hD dX12_say_112 ⟨trivial, hI, fr_w hfi (by decide), fr_w hfc (by decide), (show SJ (c 3) (c 6) (c 9) (c 10) (c 11) (c 13) ((i 2) : Int32).toInt ((i 5) : Int32).toInt ((i 8) : Int32).toInt from hs_S), (show TJ (c 3) (c 6) (c 23) (c 24) (c 29) (c 30) ((i 5) : Int32).toInt ((i 22) : Int32).toInt ((i 27) : Int32).toInt from hs_J)⟩
          refine lv_if_eq (tgt := 99) hx hb dX12_say_84 (by decide) (fun c25 => ?_) (fun c25 => ?_)
          · have f25 := (ti_eq (a := z7_0.toInt) (b := 0) rfl (by decide)).mp c25
            refine lv_bipush (v := (-9)) hx hb dX12_say_99 (by decide) ?_
            exact jn8  ((-9) : Int32) (show ((-9) : Int32).toInt = -9 ∨ (0 ≤ ((-9) : Int32).toInt ∧ ((-9) : Int32).toInt ≤ 199) from by have h57 : ((-9) : Int32).toInt = -9 := (by decide); have h60 : (0 : Int32).toInt = 0 := (by decide); omega) _ _ _ hP hD hS (lv_sub hl [0, 1, 2, 3, 4, 5, 6] rfl)
          · have f25 := mt (ti_eq (a := z7_0.toInt) (b := 0) rfl (by decide)).mpr c25
            refine lv_aload_n hx hb dX12_say_87 rfl (lv_at hl 2 rfl) ?_
            refine lv_iload_n hx hb dX12_say_88 rfl (lv_at hl 3 rfl) ?_
            refine lv_iload_n hx hb dX12_say_89 rfl (lv_at hl 4 rfl) ?_
            refine lv_iload_n hx hb dX12_say_90 rfl (lv_at hl 5 rfl) ?_
            refine lv_iload hx hb dX12_say_91 (lv_at hl 1 rfl) ?_
            refine ro_calli (va_runV (As := [.int f, .int w1, .int w2, .int z5_0]) (rest := []) ⟨hx, hb, hml, hown, hts⟩ (s_X12_saidSo l D H.size o a t (upd i 15 0) q c d f w1 w2 z5_0 hI ) (cwV 4 hts gm_X12_say_X12_saidSo rfl rfl rfl (by decide +kernel) ⟨Nat.le_of_ble_eq_true rfl, Nat.le_of_ble_eq_true rfl⟩) (pA_V hK hP (ci := 12) (q0 := 0) rfl rfl) rfl rfl hl.1 rfl (lv_room (Nat.le_of_ble_eq_true rfl)) dX12_say_93 ⟨Nat.le_of_ble_eq_true rfl, Nat.le_of_ble_eq_true rfl⟩) hS hA hP (fun r26 u26 H locs hw26 hP hS => ?_)
            have hw26 : (r26.toInt = -9 ∨ (0 ≤ r26.toInt ∧ r26.toInt ≤ 199)) := hw26
            refine lv_goto (tgt := 101) hx hb dX12_say_96 (by decide) ?_
            exact jn8  r26 (show r26.toInt = -9 ∨ (0 ≤ r26.toInt ∧ r26.toInt ≤ 199) from by have h60 : (0 : Int32).toInt = 0 := (by decide); omega) _ _ _ hP hD hS (lv_sub hl [0, 1, 2, 3, 4, 5, 6] rfl)
        have jn27 : ∀ (H : Heap) (locs : List Loc) (ls : Array Slot), va_P D vwCl (mW o a t (upd i 15 0) q c d) H → va_D A (mW o a t (upd i 15 0) q c d) → va_S A s.heap H locs → lv_has ls 9 [(5, .int z5_0), (0, .ref o), (1, .int f), (2, .int w1), (3, .int w2), (4, .int w3)] → W p l e (headSpec wm_X12_say ({ frames := 5, cells := 0, slots := 0, locals := 110 })).room s m ([.ref o, .int f, .int w1, .int w2, .int w3] : List Value).toArray below meth cd H locs 0 0 (MQ below (va_Qi (fun (r : Int32) (u : MS) => True ∧ mInv u.1 u.2.2.1 ∧ (∀ k, k ∉ ([0, 8, 15, 22, 27] : List Nat) → u.1 k = i k) ∧ (∀ k, k ∉ ([1, 9, 10, 11, 12, 13, 14] : List Nat) → u.2.2.1 k = c k) ∧ (SJ (u.2.2.1 3) (u.2.2.1 6) (u.2.2.1 9) (u.2.2.1 10) (u.2.2.1 11) (u.2.2.1 13) (u.1 2).toInt (u.1 5).toInt (u.1 8).toInt) ∧ (TJ (u.2.2.1 3) (u.2.2.1 6) (u.2.2.1 23) (u.2.2.1 24) (u.2.2.1 29) (u.2.2.1 30) (u.1 5).toInt (u.1 22).toInt (u.1 27).toInt)) (oC D A (fun u : MS => mW o a t u.1 u.2.1 u.2.2.1 u.2.2.2) (fun _ => [])) A) ([.ref o, .int f, .int w1, .int w2, .int w3] : List Value).toArray s 0 0 A) (F0 m 79 ls []) := by
          intro H locs ls hP hD hS hl
          refine lv_iconst (v := 0) hx hb dX12_say_79 (by decide) ?_
          exact jn7  (0 : Int32) (show (0 : Int32).toInt = 0 ∨ (0 : Int32).toInt = 1 from by have h56 : (0 : Int32).toInt = 0 := (by decide); have h60 : (0 : Int32).toInt = 0 := (by decide); omega) (show Im ((0 : Int32).toInt = 1) (Im (f.toInt < 5) (¬ Kd (c 3) (c 6) w1.toInt 0) ∧ Im (f.toInt = 5) (Kd (c 3) (c 6) w1.toInt 0 ∧ (Kd (c 3) (c 6) w2.toInt 0 ∨ Kd (c 3) (c 6) w2.toInt 2))) from fun h9 => absurd h9 (by decide)) _ _ _ hP hD hS (lv_sub hl [0, 1, 2, 3, 4, 5] rfl)
        refine lv_if_eq (tgt := 79) hx hb dX12_say_57 (by decide) (fun c28 => ?_) (fun c28 => ?_)
        · have f28 := (ti_eq (a := r6.toInt) (b := 0) rfl (by decide)).mp c28
          exact jn27    _ _ _ hP hD hS (lv_sub hl [0, 1, 2, 3, 4, 5] rfl)
        · have f28 := mt (ti_eq (a := r6.toInt) (b := 0) rfl (by decide)).mpr c28
          refine lv_iload_n hx hb dX12_say_60 rfl (lv_at hl 2 rfl) ?_
          refine lv_bipush (v := 6) hx hb dX12_say_61 (by decide) ?_
          have jn29 : (Im (f.toInt < 5) (¬ Kd (c 3) (c 6) w1.toInt 0) ∧ Im (f.toInt = 5) (Kd (c 3) (c 6) w1.toInt 0 ∧ (Kd (c 3) (c 6) w2.toInt 0 ∨ Kd (c 3) (c 6) w2.toInt 2))) → ∀ (H : Heap) (locs : List Loc) (ls : Array Slot), va_P D vwCl (mW o a t (upd i 15 0) q c d) H → va_D A (mW o a t (upd i 15 0) q c d) → va_S A s.heap H locs → lv_has ls 9 [(5, .int z5_0), (0, .ref o), (1, .int f), (2, .int w1), (3, .int w2), (4, .int w3)] → W p l e (headSpec wm_X12_say ({ frames := 5, cells := 0, slots := 0, locals := 110 })).room s m ([.ref o, .int f, .int w1, .int w2, .int w3] : List Value).toArray below meth cd H locs 0 0 (MQ below (va_Qi (fun (r : Int32) (u : MS) => True ∧ mInv u.1 u.2.2.1 ∧ (∀ k, k ∉ ([0, 8, 15, 22, 27] : List Nat) → u.1 k = i k) ∧ (∀ k, k ∉ ([1, 9, 10, 11, 12, 13, 14] : List Nat) → u.2.2.1 k = c k) ∧ (SJ (u.2.2.1 3) (u.2.2.1 6) (u.2.2.1 9) (u.2.2.1 10) (u.2.2.1 11) (u.2.2.1 13) (u.1 2).toInt (u.1 5).toInt (u.1 8).toInt) ∧ (TJ (u.2.2.1 3) (u.2.2.1 6) (u.2.2.1 23) (u.2.2.1 24) (u.2.2.1 29) (u.2.2.1 30) (u.1 5).toInt (u.1 22).toInt (u.1 27).toInt)) (oC D A (fun u : MS => mW o a t u.1 u.2.1 u.2.2.1 u.2.2.2) (fun _ => [])) A) ([.ref o, .int f, .int w1, .int w2, .int w3] : List Value).toArray s 0 0 A) (F0 m 75 ls []) := by
            intro hz29_0 H locs ls hP hD hS hl
            refine lv_iconst (v := 1) hx hb dX12_say_75 (by decide) ?_
            refine lv_goto (tgt := 80) hx hb dX12_say_76 (by decide) ?_
            exact jn7  (1 : Int32) (show (1 : Int32).toInt = 0 ∨ (1 : Int32).toInt = 1 from by have h56 : (1 : Int32).toInt = 1 := (by decide); have h60 : (0 : Int32).toInt = 0 := (by decide); omega) (show Im ((1 : Int32).toInt = 1) (Im (f.toInt < 5) (¬ Kd (c 3) (c 6) w1.toInt 0) ∧ Im (f.toInt = 5) (Kd (c 3) (c 6) w1.toInt 0 ∧ (Kd (c 3) (c 6) w2.toInt 0 ∨ Kd (c 3) (c 6) w2.toInt 2))) from fun _ => hz29_0) _ _ _ hP hD hS (lv_sub hl [0, 1, 2, 3, 4, 5] rfl)
          refine lv_icmp_eq (tgt := 75) hx hb dX12_say_63 (by decide) (fun c30 => ?_) (fun c30 => ?_)
          · have f30 := (ti_eq (a := f.toInt) (b := 6) rfl (by decide)).mp c30
            exact jn29   (show Im (f.toInt < 5) (¬ Kd (c 3) (c 6) w1.toInt 0) ∧ Im (f.toInt = 5) (Kd (c 3) (c 6) w1.toInt 0 ∧ (Kd (c 3) (c 6) w2.toInt 0 ∨ Kd (c 3) (c 6) w2.toInt 2)) from ⟨fun h8 => Kd_10 (K6_of hI0) ((hr6_0 (by omega)).1 (Or.inl h8)), fun h8 => ⟨(hr6_0 (by omega)).2 h8, by first | (exfalso; omega) | exact hI (by omega) h8⟩⟩) _ _ _ hP hD hS (lv_sub hl [0, 1, 2, 3, 4, 5] rfl)
          · have f30 := mt (ti_eq (a := f.toInt) (b := 6) rfl (by decide)).mpr c30
            refine lv_aload_n hx hb dX12_say_66 rfl (lv_at hl 1 rfl) ?_
            refine lv_iload_n hx hb dX12_say_67 rfl (lv_at hl 2 rfl) ?_
            refine lv_iload_n hx hb dX12_say_68 rfl (lv_at hl 4 rfl) ?_
            refine ro_calli (va_runV (As := [.int f, .int w2]) (rest := []) ⟨hx, hb, hml, hown, hts⟩ (s_X12_fitsRight l D H.size o a t (upd i 15 0) q c d f w2 hI (show 0 ≤ w2.toInt ∧ w2.toInt ≤ 29 from by have h60 : (0 : Int32).toInt = 0 := (by decide); omega)) (cwV 2 hts gm_X12_say_X12_fitsRight rfl rfl rfl (by decide +kernel) ⟨Nat.le_of_ble_eq_true rfl, Nat.le_of_ble_eq_true rfl⟩) (pA_V hK hP (ci := 12) (q0 := 0) rfl rfl) rfl rfl hl.1 rfl (lv_room (Nat.le_of_ble_eq_true rfl)) dX12_say_69 ⟨Nat.le_of_ble_eq_true rfl, Nat.le_of_ble_eq_true rfl⟩) hS hA hP (fun r31 u31 H locs hw31 hP hS => ?_)
            have hw31 : ((0 ≤ r31.toInt ∧ r31.toInt ≤ 1) ∧ (Im (r31.toInt = 1) (Im (f.toInt = 5) (Kd (c 3) (c 6) w2.toInt 0 ∨ Kd (c 3) (c 6) w2.toInt 2)))) := hw31
            obtain ⟨hw31, hr31_0⟩ := hw31
            have hr31_0 : Im (r31.toInt = 1) (Im (f.toInt = 5) (Kd (c 3) (c 6) w2.toInt 0 ∨ Kd (c 3) (c 6) w2.toInt 2)) := hr31_0
            refine lv_if_eq (tgt := 79) hx hb dX12_say_72 (by decide) (fun c32 => ?_) (fun c32 => ?_)
            · have f32 := (ti_eq (a := r31.toInt) (b := 0) rfl (by decide)).mp c32
              exact jn27    _ _ _ hP hD hS (lv_sub hl [0, 1, 2, 3, 4, 5] rfl)
            · have f32 := mt (ti_eq (a := r31.toInt) (b := 0) rfl (by decide)).mpr c32
              exact jn29   (show Im (f.toInt < 5) (¬ Kd (c 3) (c 6) w1.toInt 0) ∧ Im (f.toInt = 5) (Kd (c 3) (c 6) w1.toInt 0 ∧ (Kd (c 3) (c 6) w2.toInt 0 ∨ Kd (c 3) (c 6) w2.toInt 2)) from ⟨fun h8 => Kd_10 (K6_of hI0) ((hr6_0 (by omega)).1 (Or.inl h8)), fun h8 => ⟨(hr6_0 (by omega)).2 h8, by first | (exfalso; omega) | exact hr31_0 (by omega) h8⟩⟩) _ _ _ hP hD hS (lv_sub hl [0, 1, 2, 3, 4, 5] rfl)
      have jn33 : ∀ (H : Heap) (locs : List Loc) (ls : Array Slot), va_P D vwCl (mW o a t (upd i 15 0) q c d) H → va_D A (mW o a t (upd i 15 0) q c d) → va_S A s.heap H locs → lv_has ls 9 [(0, .ref o), (1, .int f), (2, .int w1), (3, .int w2), (4, .int w3)] → W p l e (headSpec wm_X12_say ({ frames := 5, cells := 0, slots := 0, locals := 110 })).room s m ([.ref o, .int f, .int w1, .int w2, .int w3] : List Value).toArray below meth cd H locs 0 0 (MQ below (va_Qi (fun (r : Int32) (u : MS) => True ∧ mInv u.1 u.2.2.1 ∧ (∀ k, k ∉ ([0, 8, 15, 22, 27] : List Nat) → u.1 k = i k) ∧ (∀ k, k ∉ ([1, 9, 10, 11, 12, 13, 14] : List Nat) → u.2.2.1 k = c k) ∧ (SJ (u.2.2.1 3) (u.2.2.1 6) (u.2.2.1 9) (u.2.2.1 10) (u.2.2.1 11) (u.2.2.1 13) (u.1 2).toInt (u.1 5).toInt (u.1 8).toInt) ∧ (TJ (u.2.2.1 3) (u.2.2.1 6) (u.2.2.1 23) (u.2.2.1 24) (u.2.2.1 29) (u.2.2.1 30) (u.1 5).toInt (u.1 22).toInt (u.1 27).toInt)) (oC D A (fun u : MS => mW o a t u.1 u.2.1 u.2.2.1 u.2.2.2) (fun _ => [])) A) ([.ref o, .int f, .int w1, .int w2, .int w3] : List Value).toArray s 0 0 A) (F0 m 42 ls []) := by
        intro H locs ls hP hD hS hl
        refine lv_iconst (v := 0) hx hb dX12_say_42 (by decide) ?_
        refine lv_goto (tgt := 48) hx hb dX12_say_43 (by decide) ?_
        exact jn5  (0 : Int32) (show 0 ≤ (0 : Int32).toInt ∧ (0 : Int32).toInt ≤ 9 from by have h55 : (0 : Int32).toInt = 0 := (by decide); have h60 : (0 : Int32).toInt = 0 := (by decide); omega) _ _ _ hP hD hS (lv_sub hl [0, 1, 2, 3, 4] rfl)
      refine lv_icmp_lt (tgt := 42) hx hb dX12_say_33 (by decide) (fun c34 => ?_) (fun c34 => ?_)
      · have f34 := (ti_lt (a := f.toInt) (b := 5) rfl (by decide)).mp c34
        exact jn33    _ _ _ hP hD hS (lv_sub hl [0, 1, 2, 3, 4] rfl)
      · have f34 := mt (ti_lt (a := f.toInt) (b := 5) rfl (by decide)).mpr c34
        refine lv_iload_n hx hb dX12_say_36 rfl (lv_at hl 1 rfl) ?_
        refine lv_bipush (v := 7) hx hb dX12_say_37 (by decide) ?_
        refine lv_icmp_ne (tgt := 46) hx hb dX12_say_39 (by decide) (fun c35 => ?_) (fun c35 => ?_)
        · have f35 := mt (ti_eq (a := f.toInt) (b := 7) rfl (by decide)).mpr c35
          refine lv_iload hx hb dX12_say_46 (lv_at hl 4 rfl) ?_
          exact jn5  w3 (show 0 ≤ w3.toInt ∧ w3.toInt ≤ 9 from by have h60 : (0 : Int32).toInt = 0 := (by decide); omega) _ _ _ hP hD hS (lv_sub hl [0, 1, 2, 3, 4] rfl)
        · have f35 := (ti_eq (a := f.toInt) (b := 7) rfl (by decide)).mp c35
          exact jn33    _ _ _ hP hD hS (lv_sub hl [0, 1, 2, 3, 4] rfl)
    · have f4 := (ti_eq (a := r3.toInt) (b := 0) rfl (by decide)).mp c4
      refine lv_iconst (v := (-1)) hx hb dX12_say_29 (by decide) ?_
      exact rw_iret ((upd i 15 0), q, c, d) hx hb hr hlocks hS (hK.sub (tys' := []) [] rfl) hP hD dX12_say_30 ⟨trivial, hI, fr_w hfi (by decide), fr_w hfc (by decide), (show SJ (c 3) (c 6) (c 9) (c 10) (c 11) (c 13) ((i 2) : Int32).toInt ((i 5) : Int32).toInt ((i 8) : Int32).toInt from hs_S), (show TJ (c 3) (c 6) (c 23) (c 24) (c 29) (c 30) ((i 5) : Int32).toInt ((i 22) : Int32).toInt ((i 27) : Int32).toInt from hs_J)⟩

