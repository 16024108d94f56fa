def wm_X7_tryWith : List Cond := .code yX7_tryWith cX7_tryWith 6 none :: (([.methodLink RX7 138 yX0_hasY, .static yX0_hasY, .initialized RX0, .code yX0_hasY cX0_hasY 1 (some .boolean), .methodLink RX7 107 yX7_isEnded, .instanceMethod yX7_isEnded, .selects RX7 yX7_isEnded yX7_isEnded, .initialized RX7, .code yX7_isEnded cX7_isEnded 1 (some .boolean), .fieldLink RX7 83 "TalePlay$Seeker" "found" "I", .fieldLink RX7 86 "TalePlay$Seeker" "states" "I", .fieldLink RX7 57 "TalePlay$Seeker" "acts" "LTalePlay$Acts;", .methodLink RX7 141 yX0_reasonOfY, .instanceMethod yX0_reasonOfY, .selects RX0 yX0_reasonOfY yX0_reasonOfY, .code yX0_reasonOfY cX0_reasonOfY 4 (some .int), .methodLink RX0 67 yX0_reasonToPut, .instanceMethod yX0_reasonToPut, .selects RX0 yX0_reasonToPut yX0_reasonToPut, .code yX0_reasonToPut cX0_reasonToPut 4 (some .int), .fieldLink RX0 34 "TalePlay$Acts" "sight" "LTalePlay$Sight;", .fieldLink RX0 108 "TalePlay$Sight" "seen" "[Z", .fieldLink RX0 9 "TalePlay$Acts" "world" "LTalePlay$World;", .methodLink RX0 86 yX10_sortOf, .instanceMethod yX10_sortOf, .selects RX10 yX10_sortOf yX10_sortOf, .initialized RX10, .code yX10_sortOf cX10_sortOf 2 (some .int), .fieldLink RX10 37 "TalePlay$World" "objects" "I", .fieldLink RX10 15 "TalePlay$World" "sorts" "[I", .fieldLink RX10 21 "TalePlay$World" "kindOf" "[I", .fieldLink RX0 33 "TalePlay$Acts" "scene" "LTalePlay$Scene;", .methodLink RX0 112 yX6_isUp, .instanceMethod yX6_isUp, .selects RX6 yX6_isUp yX6_isUp, .initialized RX6, .code yX6_isUp cX6_isUp 5 (some .boolean), .methodLink RX6 25 yX6_holderOf, .instanceMethod yX6_holderOf, .selects RX6 yX6_holderOf yX6_holderOf, .code yX6_holderOf cX6_holderOf 3 (some .int), .fieldLink RX6 9 "TalePlay$Scene" "cells" "[I", .fieldLink RX0 118 "TalePlay$Sight" "reached" "[Z", .methodLink RX0 134 yX6_countOf, .instanceMethod yX6_countOf, .selects RX6 yX6_countOf yX6_countOf, .code yX6_countOf cX6_countOf 5 (some .int), .fieldLink RX6 15 "TalePlay$Scene" "world" "LTalePlay$World;", .fieldLink RX6 34 "TalePlay$World" "objects" "I", .methodLink RX6 38 yX6_lies, .instanceMethod yX6_lies, .selects RX6 yX6_lies yX6_lies, .code yX6_lies cX6_lies 4 (some .boolean), .methodLink RX0 104 yX6_has, .instanceMethod yX6_has, .selects RX6 yX6_has yX6_has, .code yX6_has cX6_has 3 (some .boolean), .methodLink RX0 71 yX0_reasonOfKey, .instanceMethod yX0_reasonOfKey, .selects RX0 yX0_reasonOfKey yX0_reasonOfKey, .code yX0_reasonOfKey cX0_reasonOfKey 3 (some .int), .methodLink RX0 49 yX0_isHeld, .instanceMethod yX0_isHeld, .selects RX0 yX0_isHeld yX0_isHeld, .code yX0_isHeld cX0_isHeld 2 (some .boolean), .fieldLink RX0 38 "TalePlay$Acts" "player" "I", .methodLink RX0 74 yX6_lies, .fieldLink RX0 15 "TalePlay$Acts" "book" "LTalePlay$Book;", .methodLink RX0 144 yX1_keyOf, .instanceMethod yX1_keyOf, .selects RX1 yX1_keyOf yX1_keyOf, .initialized RX1, .code yX1_keyOf cX1_keyOf 3 (some .int), .fieldLink RX1 37 "TalePlay$Book" "keyBy" "[I", .fieldLink RX1 15 "TalePlay$Book" "as" "[I", .methodLink RX7 145 yX7_step, .instanceMethod yX7_step, .selects RX7 yX7_step yX7_step, .code yX7_step cX7_step 10 none, .methodLink RX7 148 yX0_subjectOf, .instanceMethod yX0_subjectOf, .selects RX0 yX0_subjectOf yX0_subjectOf, .code yX0_subjectOf cX0_subjectOf 3 (some .int), .fieldLink RX7 39 "TalePlay$Seeker" "scene" "LTalePlay$Scene;", .fieldLink RX7 65 "TalePlay$Scene" "cells" "[I", .methodLink RX7 151 yX0_outcomeOf, .instanceMethod yX0_outcomeOf, .selects RX0 yX0_outcomeOf yX0_outcomeOf, .code yX0_outcomeOf cX0_outcomeOf 5 (some .int), .fieldLink RX0 149 "TalePlay$Scene" "cells" "[I", .methodLink RX0 152 yX0_subjectOf, .fieldLink RX0 19 "TalePlay$Acts" "roads" "LTalePlay$Roads;", .fieldLink RX0 95 "TalePlay$Roads" "leads" "[I", .methodLink RX0 83 yX6_holderOf, .methodLink RX0 155 yX6_placed, .static yX6_placed, .code yX6_placed cX6_placed 3 (some .int), .methodLink RX0 80 yX6_formOf, .instanceMethod yX6_formOf, .selects RX6 yX6_formOf yX6_formOf, .code yX6_formOf cX6_formOf 3 (some .int), .methodLink RX0 158 yX6_flagged, .static yX6_flagged, .code yX6_flagged cX6_flagged 4 (some .int), .methodLink RX0 162 yX0_placedAs, .instanceMethod yX0_placedAs, .selects RX0 yX0_placedAs yX0_placedAs, .code yX0_placedAs cX0_placedAs 3 (some .int), .fieldLink RX7 15 "TalePlay$Seeker" "marks" "[I", .methodLink RX7 154 yX7_weightOf, .static yX7_weightOf, .code yX7_weightOf cX7_weightOf 1 (some .int), .constant RX7 163 (-1640531535), .methodLink RX7 99 yX7_slotFor, .instanceMethod yX7_slotFor, .selects RX7 yX7_slotFor yX7_slotFor, .code yX7_slotFor cX7_slotFor 4 (some .int), .fieldLink RX7 18 "TalePlay$Seeker" "slots" "[I", .methodLink RX7 164 yX7_isScene, .instanceMethod yX7_isScene, .selects RX7 yX7_isScene yX7_isScene, .code yX7_isScene cX7_isScene 3 (some .boolean), .fieldLink RX7 30 "TalePlay$Seeker" "world" "LTalePlay$World;", .fieldLink RX7 125 "TalePlay$World" "objects" "I", .fieldLink RX7 9 "TalePlay$Seeker" "kept" "[I", .code yX11_deedOf cX11_deedOf 3 (some .int), .initialized RX11, .static yX11_deedOf, .methodLink RX7 103 yX7_keep, .instanceMethod yX7_keep, .selects RX7 yX7_keep yX7_keep, .code yX7_keep cX7_keep 5 none, .methodLink RX7 68 arraycopyName, .native arraycopyName, .static arraycopyName, .initialized "java/lang/System", .fieldLink RX7 21 "TalePlay$Seeker" "parents" "[I", .fieldLink RX7 24 "TalePlay$Seeker" "deeds" "[I", .fieldLink RX7 77 "TalePlay$Seeker" "goalThing" "I", .methodLink RX7 160 yX6_holderOf, .fieldLink RX7 80 "TalePlay$Seeker" "goalHolder" "I"] : List Cond) ++ wsX70 ++ wsX00 ++ wsX80 ++ wsX100 ++ wsX60 ++ wsX10 ++ wsX50)
set_option maxRecDepth 20000 in
theorem gm_X7_tryWith_X0_hasY_138 : GoodIn wm_X7_tryWith (va_wsS RX7 138 yX0_hasY wm_X0_hasY) := goodIn_app (goodIn_of _ (by decide +kernel)) (goodIn_r _ [4] rfl (by decide +kernel))
set_option maxRecDepth 20000 in
theorem gm_X7_tryWith_X7_isEnded_107 : GoodIn wm_X7_tryWith (wsV RX7 107 RX7 yX7_isEnded wm_X7_isEnded) := goodIn_app (goodIn_of _ (by decide +kernel)) (goodIn_r _ [9, 10, 11, 142, 143, 144, 145, 146, 147, 148, 149, 150, 151, 152, 153, 154, 155, 156] rfl (by decide +kernel))
set_option maxRecDepth 20000 in
theorem gm_X7_tryWith_X0_reasonOfY_SA_141 : GoodIn wm_X7_tryWith (wsV RX7 141 RX0 yX0_reasonOfY wm_X0_reasonOfY_SA) := goodIn_app (goodIn_of _ (by decide +kernel)) (goodIn_r _ [16, 17, 18, 19, 3, 20, 21, 22, 23, 24, 25, 26, 27, 28, 29, 30, 31, 32, 33, 34, 35, 36, 37, 38, 39, 40, 41, 42, 43, 44, 45, 46, 47, 48, 49, 50, 51, 52, 53, 54, 55, 56, 57, 58, 59, 60, 61, 62, 63, 64, 65, 66, 67, 68, 69, 70, 71, 72, 73, 74, 75, 157, 158, 159, 160, 161, 162, 163, 164, 165, 166, 167, 168, 169, 170, 171, 172, 173, 174, 175, 176, 177, 178, 179, 180, 181, 182, 183, 184, 185, 186, 187, 188, 189, 190, 191, 192, 193] rfl (by decide +kernel))
set_option maxRecDepth 20000 in
theorem gm_X7_tryWith_X7_step_145 : GoodIn wm_X7_tryWith (wsV RX7 145 RX7 yX7_step wm_X7_step) := goodIn_app (goodIn_of _ (by decide +kernel)) (goodIn_r _ [79, 12, 80, 81, 82, 3, 83, 66, 84, 85, 86, 87, 88, 89, 32, 90, 91, 92, 93, 94, 39, 40, 36, 41, 42, 95, 96, 97, 98, 99, 100, 101, 102, 103, 104, 23, 24, 25, 26, 27, 28, 29, 30, 31, 105, 106, 107, 108, 109, 110, 111, 8, 112, 113, 114, 115, 116, 117, 118, 119, 120, 121, 122, 123, 124, 125, 126, 127, 128, 129, 130, 131, 132, 11, 133, 134, 135, 136, 137, 138, 139, 140, 141, 10, 142, 143, 144, 145, 146, 147, 148, 149, 150, 151, 152, 153, 154, 155, 156, 157, 158, 159, 160, 161, 162, 163, 177, 178, 194, 195, 196, 197, 198, 199, 200, 201, 202, 203, 204, 170, 171, 172, 173, 174, 175, 176] rfl (by decide +kernel))
set_option maxHeartbeats 4000000 in
set_option maxRecDepth 100000 in
theorem x_X7_tryWith (l : Launch) (D : va_G) (sz : Nat) (sk : Value) (a : Nat → Nat) (t : Nat → ClassId) (i : Nat → Int32) (q : Int64) (c : Nat → Nat → Int32) (d : Nat → Nat → Int64) (s1 : Int32) (v1 : Int32) (w : Int32) (hI : xInv i c) (hs1 : 0 ≤ s1.toInt ∧ s1.toInt ≤ 299) (hv1 : 0 ≤ v1.toInt ∧ v1.toInt ≤ 12) (hx0 : v1.toInt = 0 → 0 ≤ w.toInt ∧ w.toInt ≤ 9) (hx1 : 1 ≤ v1.toInt ∧ v1.toInt ≤ 10 → 0 ≤ w.toInt ∧ w.toInt ≤ 29) (hag : Im (v1.toInt = 0) (AG (c 179) (c 129) (i 185) w)) (hal : Im (v1.toInt = 11) (AL (c 179) (i 185))) (hsp : 0 ≤ (i 185).toInt ∧ (i 185).toInt ≤ 29) (hKJ : KJ (c 167) (i 174).toInt (i 185)) (hPS : PS (c 179) (i 185)) : Met l yX7_tryWith wm_X7_tryWith ({ frames := 4, cells := 0, slots := 0, locals := 97 }) (va_Pc [.ref (a 166), .int s1, .int v1, .int w] (yB (a 186) D sz (xwS sk a t i q c d) (xtS t))) (va_Qv (fun (u : MS) => True ∧ xInv u.1 u.2.2.1 ∧ (∀ k, k ∉ ([174, 175] : List Nat) → u.1 k = i k) ∧ (∀ k, k ∉ ([167, 168, 169, 170, 171, 179] : List Nat) → u.2.2.1 k = c k) ∧ (KJ (u.2.2.1 167) (u.1 174).toInt (u.1 185)) ∧ ((i 174).toInt ≤ (u.1 174).toInt) ∧ (u.2.2.1 179 = c 179)) (oC D (va_A (xwS sk a t i q c d) sz) (fun u : MS => xwS sk a t u.1 u.2.1 u.2.2.1 u.2.2.2) (fun _ => [])) (va_A (xwS sk a t i q c d) sz)) 0 0 (va_A (xwS sk a t i q c d) sz) := by
  refine Met.ofW (cc := cX7_tryWith) (maxL := 6) (ret := none) (by decide) rfl ?_
  intro p e s m args below meth cd s₁ B hml hv
  obtain ⟨rfl, ⟨hsz, hP, hK, hD0⟩, hN, hZ, hBW⟩ := hv
  have hx := B.exec
  have hb := B.bytes
  have hr := B.returns
  have hts := atoms_spec (ws := wm_X7_tryWith) B.pre
  have hown : s.vm.findClass RX7 = some m.cls := findClass_of_methodNamed B.named
  have hlocks := B.notSynchronized
  subst hsz
  have hD := hD0.self (sz := s.heap.size)
  have hZ := xZ_A hZ hP hBW
  generalize hAe : va_A (xwS sk a t i q c d) s.heap.size = A at hD hZ ⊢
  have hA : ∀ q : Nat, s.heap.size ≤ q → A q := fun q h => by rw [← hAe]; exact Or.inr h
  have hS : va_S A s.heap s.heap [] := va_S.rf
  have hfi : ∀ k, k ∉ ([] : List Nat) → i k = i k := fun _ _ => rfl
  have hfc : ∀ k, k ∉ ([] : List Nat) → c k = c k := fun _ _ => rfl
  have hl := lv_entry ([.ref (a 166), .int s1, .int v1, .int w]) (n := 6) (Nat.le_of_ble_eq_true rfl)
  rw [lg_entry_eq]
  generalize (lg_sl ([.ref (a 166), .int s1, .int v1, .int w]) ++ List.replicate (6 - (lg_sl ([.ref (a 166), .int s1, .int v1, .int w])).length) Slot.unset).toArray = ls at hl ⊢
  have hl : lv_has ls 6 [(0, .ref (a 166)), (1, .int s1), (2, .int v1), (3, .int w)] := hl
  have hPS0 := hPS
  have hKJ : KJ (c 167) ((i 174) : Int32).toInt ((i 185) : Int32) := hKJ
  have hPS : PS (c 179) ((i 185) : Int32) := hPS
  have hmo : (i 174).toInt ≤ ((i 174) : Int32).toInt := Int.le_refl _
  have hsa : (c 179) = c 179 := rfl
  refine lv_iload_n hx hb dX7_tryWith_0 rfl (lv_at hl 2 rfl) ?_
  have hPc := hP.sub (ws' := []) [] rfl
  have hKc := hK.sub (tys' := []) [] rfl
  refine ro_calli (va_runS (As := [.int v1]) (rest := []) ⟨hx, hb, hml, hown, hts⟩ (c_X0_hasY l D s.heap.size v1) (va_cwS 1 hts gm_X7_tryWith_X0_hasY_138 rfl rfl rfl (by decide +kernel) ⟨Nat.le_of_ble_eq_true rfl, Nat.le_of_ble_eq_true rfl⟩) (pA_S hKc hPc) rfl rfl hl.1 rfl (lv_room (Nat.le_of_ble_eq_true rfl)) dX7_tryWith_1 ⟨Nat.le_of_ble_eq_true rfl, Nat.le_of_ble_eq_true rfl⟩) hS hA hP (fun r2 u2 H locs hw2 hP hS => ?_)
  have hw2 : r2 = if (v1.toInt = 3 ∨ v1.toInt = 4 ∨ v1.toInt = 7 ∨ v1.toInt = 8) then 1 else 0 := hw2
  have jn3 : ∀ (z3_0 : Int32), (0 ≤ z3_0.toInt ∧ z3_0.toInt ≤ 30) → ∀ (H : Heap) (locs : List Loc) (ls : Array Slot), va_P D vwCl (xwS sk a t i q c d) H → va_D A (xwS sk a t i q c d) → va_S A s.heap H locs → lv_has ls 6 [(0, .ref (a 166)), (1, .int s1), (2, .int v1), (3, .int w)] → W p l e (headSpec wm_X7_tryWith ({ frames := 4, cells := 0, slots := 0, locals := 97 })).room s m ([.ref (a 166), .int s1, .int v1, .int w] : List Value).toArray below meth cd H locs 0 0 (MQ below (va_Qv (fun (u : MS) => True ∧ xInv u.1 u.2.2.1 ∧ (∀ k, k ∉ ([174, 175] : List Nat) → u.1 k = i k) ∧ (∀ k, k ∉ ([167, 168, 169, 170, 171, 179] : List Nat) → u.2.2.1 k = c k) ∧ (KJ (u.2.2.1 167) (u.1 174).toInt (u.1 185)) ∧ ((i 174).toInt ≤ (u.1 174).toInt) ∧ (u.2.2.1 179 = c 179)) (oC D A (fun u : MS => xwS sk a t u.1 u.2.1 u.2.2.1 u.2.2.2) (fun _ => [])) A) ([.ref (a 166), .int s1, .int v1, .int w] : List Value).toArray s 0 0 A) (F0 m 18 ls [.int z3_0]) := by
    intro z3_0 hs3_0 H locs ls hP hD hS hl
    refine lv_istore (lv' := [(4, .int z3_0), (0, .ref (a 166)), (1, .int s1), (2, .int v1), (3, .int w)]) hx hb dX7_tryWith_18 hl (by decide) rfl (fun ls hl => ?_)
    refine lv_iconst (v := 0) hx hb dX7_tryWith_20 (by decide) ?_
    refine lv_istore (lv' := [(5, .int 0), (4, .int z3_0), (0, .ref (a 166)), (1, .int s1), (2, .int v1), (3, .int w)]) hx hb dX7_tryWith_21 hl (by decide) rfl (fun ls hl => ?_)
    have lp4 : ∀ (fu : Nat) (i4 : Nat → Int32) (q4 : Int64) (c4 : Nat → Nat → Int32) (d4 : Nat → Nat → Int64) (y4_5 : Int32), xInv i4 c4 → (∀ k, k ∉ ([174, 175] : List Nat) → i4 k = i k) → (∀ k, k ∉ ([167, 168, 169, 170, 171, 179] : List Nat) → c4 k = c k) → (KJ (c4 167) ((i4 174) : Int32).toInt ((i4 185) : Int32)) → (PS (c4 179) ((i4 185) : Int32)) → ((i 174).toInt ≤ ((i4 174) : Int32).toInt) → ((c4 179) = c 179) → (0 ≤ y4_5.toInt ∧ y4_5.toInt ≤ 30) → (30 - y4_5.toInt).toNat < fu → ∀ (H : Heap) (locs : List Loc) (ls : Array Slot), va_P D vwCl (xwS sk a t i4 q4 c4 d4) H → va_D A (xwS sk a t i4 q4 c4 d4) → va_S A s.heap H locs → lv_has ls 6 [(5, .int y4_5), (4, .int z3_0), (0, .ref (a 166)), (1, .int s1), (2, .int v1), (3, .int w)] → W p l e (headSpec wm_X7_tryWith ({ frames := 4, cells := 0, slots := 0, locals := 97 })).room s m ([.ref (a 166), .int s1, .int v1, .int w] : List Value).toArray below meth cd H locs 0 0 (MQ below (va_Qv (fun (u : MS) => True ∧ xInv u.1 u.2.2.1 ∧ (∀ k, k ∉ ([174, 175] : List Nat) → u.1 k = i k) ∧ (∀ k, k ∉ ([167, 168, 169, 170, 171, 179] : List Nat) → u.2.2.1 k = c k) ∧ (KJ (u.2.2.1 167) (u.1 174).toInt (u.1 185)) ∧ ((i 174).toInt ≤ (u.1 174).toInt) ∧ (u.2.2.1 179 = c 179)) (oC D A (fun u : MS => xwS sk a t u.1 u.2.1 u.2.2.1 u.2.2.2) (fun _ => [])) A) ([.ref (a 166), .int s1, .int v1, .int w] : List Value).toArray s 0 0 A) (F0 m 23 ls []) := by
      intro fu
      induction fu with
      | zero => intro i4 q4 c4 d4 y4_5 hI hfi hfc hKJ hPS hmo hsa hy4_5 hm; exact absurd hm (Nat.not_lt_zero _)
      | succ fu ih =>
        intro i4 q4 c4 d4 y4_5 hI hfi hfc hKJ hPS hmo hsa hy4_5 hm H locs ls hP hD hS hl
        have ih4 := ih
        refine lv_iload hx hb dX7_tryWith_23 (lv_at hl 0 rfl) ?_
        refine lv_iload hx hb dX7_tryWith_25 (lv_at hl 1 rfl) ?_
        refine lv_icmp_ge (tgt := 66) hx hb dX7_tryWith_27 (by decide) (fun c5 => ?_) (fun c5 => ?_)
        · have f5 := (ti_le (a := z3_0.toInt) (b := y4_5.toInt) rfl rfl).mp c5
          exact rw_vret (i4, q4, c4, d4) hx hb hr hlocks hS (hK.sub (tys' := []) [] rfl) hP hD dX7_tryWith_66 ⟨trivial, hI, fr_w hfi (by decide), fr_w hfc (by decide), (show KJ (c4 167) ((i4 174) : Int32).toInt ((i4 185) : Int32) from hKJ), (show (i 174).toInt ≤ ((i4 174) : Int32).toInt from hmo), (show c4 179 = c 179 from hsa)⟩
        · have f5 := mt (ti_le (a := z3_0.toInt) (b := y4_5.toInt) rfl rfl).mpr c5
          refine lv_aload_n hx hb dX7_tryWith_30 rfl (lv_at hl 2 rfl) ?_
          have rb174_i4 : 0 ≤ (i4 174).toInt ∧ (i4 174).toInt ≤ 300 := hI.1 174
          have rb175_i4 : (i4 175).toInt = -9 ∨ (0 ≤ (i4 175).toInt ∧ (i4 175).toInt ≤ 299) := hI.1 175
          refine ro_calli (va_runV (As := []) (rest := []) ⟨hx, hb, hml, hown, hts⟩ (x_X7_isEnded l D H.size .null a t i4 q4 c4 d4  hI ) (cwV 0 hts gm_X7_tryWith_X7_isEnded_107 rfl rfl rfl (by decide +kernel) ⟨Nat.le_of_ble_eq_true rfl, Nat.le_of_ble_eq_true rfl⟩) (yA_V hN (xZ_k hZ hS hA) hK hP (ci := 7) (q0 := 31) rfl rfl) rfl rfl hl.1 rfl (lv_room (Nat.le_of_ble_eq_true rfl)) dX7_tryWith_31 ⟨Nat.le_of_ble_eq_true rfl, Nat.le_of_ble_eq_true rfl⟩) hS hA hP (fun r6 u6 H locs hw6 hP hS => ?_)
          have hw6 : r6 = if (¬ (i4 175).toInt = -9 ∨ 300 ≤ (i4 174).toInt) then 1 else 0 := hw6
          refine lv_if_ne (tgt := 66) hx hb dX7_tryWith_34 (by decide) (fun c7 => ?_) (fun c7 => ?_)
          · have f7 := fl_t hw6 c7
            exact rw_vret (i4, q4, c4, d4) hx hb hr hlocks hS (hK.sub (tys' := []) [] rfl) hP hD dX7_tryWith_66 ⟨trivial, hI, fr_w hfi (by decide), fr_w hfc (by decide), (show KJ (c4 167) ((i4 174) : Int32).toInt ((i4 185) : Int32) from hKJ), (show (i 174).toInt ≤ ((i4 174) : Int32).toInt from hmo), (show c4 179 = c 179 from hsa)⟩
          · have f7 := fl_f hw6 c7
            refine lv_aload_n hx hb dX7_tryWith_37 rfl (lv_at hl 2 rfl) ?_
            refine xgS_S_acts hx hb hts (fun _ h => List.mem_cons_of_mem _ (List.mem_append_left _ (List.mem_append_left _ (List.mem_append_left _ (List.mem_append_left _ (List.mem_append_left _ (List.mem_append_left _ (List.mem_append_right _ h)))))))) hown hK hP (hts (.fieldLink RX7 57 "TalePlay$Seeker" "acts" "LTalePlay$Acts;") (by decide +kernel)) dX7_tryWith_38 ?_
            refine lv_iload_n hx hb dX7_tryWith_41 rfl (lv_at hl 4 rfl) ?_
            refine lv_iload_n hx hb dX7_tryWith_42 rfl (lv_at hl 5 rfl) ?_
            refine lv_iload hx hb dX7_tryWith_43 (lv_at hl 0 rfl) ?_
            refine ro_calli (va_runV (As := [.int v1, .int w, .int y4_5]) (rest := []) ⟨hx, hb, hml, hown, hts⟩ (x_X0_reasonOfY_SA l D H.size .null a t i4 q4 c4 d4 v1 w y4_5 hI (show v1.toInt = 0 → 0 ≤ w.toInt ∧ w.toInt ≤ 9 from by omega) (show 1 ≤ v1.toInt ∧ v1.toInt ≤ 10 → 0 ≤ w.toInt ∧ w.toInt ≤ 29 from by omega) (show v1.toInt = 3 ∨ v1.toInt = 4 ∨ v1.toInt = 7 ∨ v1.toInt = 8 → 0 ≤ y4_5.toInt ∧ y4_5.toInt ≤ 29 from by omega)) (cwV 3 hts gm_X7_tryWith_X0_reasonOfY_SA_141 rfl rfl rfl (by decide +kernel) ⟨Nat.le_of_ble_eq_true rfl, Nat.le_of_ble_eq_true rfl⟩) (yA_V hN (xZ_k hZ hS hA) hK hP (ci := 0) (q0 := 43) rfl rfl) rfl rfl hl.1 rfl (lv_room (Nat.le_of_ble_eq_true rfl)) dX7_tryWith_45 ⟨Nat.le_of_ble_eq_true rfl, Nat.le_of_ble_eq_true rfl⟩) hS hA hP (fun r8 u8 H locs hw8 hP hS => ?_)
            refine lv_if_ne (tgt := 60) hx hb dX7_tryWith_48 (by decide) (fun c9 => ?_) (fun c9 => ?_)
            · have f9 := mt (ti_eq (a := r8.toInt) (b := 0) rfl (by decide)).mpr c9
              obtain ⟨x10, ex10⟩ : ∃ y : Int32, y = y4_5 + 1 := ⟨_, rfl⟩
              have tx10 := ti_add (a := y4_5.toInt) (b := 1) ex10 rfl (by decide) (by omega) (by omega)
              refine lv_iinc (v := x10) (lv' := [(5, .int x10), (4, .int z3_0), (0, .ref (a 166)), (1, .int s1), (2, .int v1), (3, .int w)]) hx hb dX7_tryWith_60 hl (k := 0) rfl (by rw [ex10]; rfl) (by decide) rfl (fun ls hl => ?_)
              refine lv_goto (tgt := 23) hx hb dX7_tryWith_63 (by decide) ?_
              exact ih4 i4 q4 c4 d4 x10 hI (fr_w hfi (by decide)) (fr_w hfc (by decide)) hKJ hPS hmo hsa (show 0 ≤ x10.toInt ∧ x10.toInt ≤ 30 from by have h50 : x10.toInt = (y4_5.toInt + 1) := tx10; omega) (by have h50 : x10.toInt = (y4_5.toInt + 1) := tx10; omega) _ _ _ hP hD hS (lv_sub hl [0, 1, 2, 3, 4, 5] rfl)
            · have f9 := (ti_eq (a := r8.toInt) (b := 0) rfl (by decide)).mp c9
              have hag2 : Im (v1.toInt = 0) (AG (c4 179) (c4 129) (i4 185) w) := by rw [hsa, show c4 129 = c 129 from hfc 129 (by decide), show i4 185 = i 185 from hfi 185 (by decide)]; exact hag
              have hal2 : Im (v1.toInt = 11) (AL (c4 179) (i4 185)) := by rw [hsa, show i4 185 = i 185 from hfi 185 (by decide)]; exact hal
              refine lv_aload_n hx hb dX7_tryWith_51 rfl (lv_at hl 2 rfl) ?_
              refine lv_iload_n hx hb dX7_tryWith_52 rfl (lv_at hl 3 rfl) ?_
              refine lv_iload_n hx hb dX7_tryWith_53 rfl (lv_at hl 4 rfl) ?_
              refine lv_iload_n hx hb dX7_tryWith_54 rfl (lv_at hl 5 rfl) ?_
              refine lv_iload hx hb dX7_tryWith_55 (lv_at hl 0 rfl) ?_
              have rb185_i4 : (i4 185).toInt = -9 ∨ (0 ≤ (i4 185).toInt ∧ (i4 185).toInt ≤ 29) := hI.1 185
              have re185_i4 : (i4 185).toInt = (i 185).toInt := congrArg Int32.toInt (hfi 185 (by decide))
              refine al_callv (va_runV (As := [.int s1, .int v1, .int w, .int y4_5]) (rest := []) ⟨hx, hb, hml, hown, hts⟩ (x_X7_step l D H.size .null a t i4 q4 c4 d4 s1 v1 w y4_5 hI (show 0 ≤ s1.toInt ∧ s1.toInt ≤ 299 from by omega) (show 0 ≤ v1.toInt ∧ v1.toInt ≤ 12 from by omega) (show v1.toInt = 0 → 0 ≤ w.toInt ∧ w.toInt ≤ 9 from by omega) (show 1 ≤ v1.toInt ∧ v1.toInt ≤ 10 → 0 ≤ w.toInt ∧ w.toInt ≤ 29 from by omega) (show v1.toInt = 3 ∨ v1.toInt = 4 ∨ v1.toInt = 7 ∨ v1.toInt = 8 → 0 ≤ y4_5.toInt ∧ y4_5.toInt ≤ 29 from by omega) hag2 hal2 (show ((i4 174) : Int32).toInt ≤ 299 from by omega) (show 0 ≤ ((i4 185) : Int32).toInt ∧ ((i4 185) : Int32).toInt ≤ 29 from by omega) hKJ hPS) (cwV 4 hts gm_X7_tryWith_X7_step_145 rfl rfl rfl (by decide +kernel) ⟨Nat.le_of_ble_eq_true rfl, Nat.le_of_ble_eq_true rfl⟩) (yB_V hN (xZ_k hZ hS hA) (xZ_n hZ hD) hK hP hD (ci := 7) (q0 := 31) rfl rfl) rfl rfl hl.1 rfl (lv_room (Nat.le_of_ble_eq_true rfl)) dX7_tryWith_57 ⟨Nat.le_of_ble_eq_true rfl, Nat.le_of_ble_eq_true rfl⟩) hS hA hP hD (fun u11 H locs hw11 hP hD hS => ?_)
              obtain ⟨i11, q11, c11, d11⟩ := u11
              have hw11 : True ∧ xInv i11 c11 ∧ (∀ k, k ∉ ([174, 175] : List Nat) → i11 k = i4 k) ∧ (∀ k, k ∉ ([167, 168, 169, 170, 171, 179] : List Nat) → c11 k = c4 k) ∧ (KJ (c11 167) (i11 174).toInt (i11 185)) ∧ ((i4 174).toInt ≤ (i11 174).toInt) ∧ (c11 179 = c4 179) := hw11
              obtain ⟨hw11, hI, hei11, hec11, hxp11_0, hxp11_1, hxp11_2⟩ := hw11
              have hxp11_0 : KJ (c11 167) (i11 174).toInt (i11 185) := hxp11_0
              have hxp11_1 : (i4 174).toInt ≤ (i11 174).toInt := hxp11_1
              have hxp11_2 : c11 179 = c4 179 := hxp11_2
              have hfi : ∀ k, k ∉ ([174, 175] : List Nat) → i11 k = i k := fr_z hfi hei11 (by decide) (by decide)
              have hfc : ∀ k, k ∉ ([167, 168, 169, 170, 171, 179] : List Nat) → c11 k = c k := fr_z hfc hec11 (by decide) (by decide)
              have hsa0 := hsa
              have hKJ : KJ (c11 167) ((i11 174) : Int32).toInt ((i11 185) : Int32) := hxp11_0
              have hmo : (i 174).toInt ≤ (i11 174).toInt := Int.le_trans hmo hxp11_1
              have hsa : c11 179 = c 179 := hxp11_2.trans hsa0
              have hPS : PS (c11 179) ((i11 185) : Int32) := by rw [hsa, show i11 185 = i 185 from hfi 185 (by decide)]; exact hPS0
              obtain ⟨x12, ex12⟩ : ∃ y : Int32, y = y4_5 + 1 := ⟨_, rfl⟩
              have tx12 := ti_add (a := y4_5.toInt) (b := 1) ex12 rfl (by decide) (by omega) (by omega)
              refine lv_iinc (v := x12) (lv' := [(5, .int x12), (4, .int z3_0), (0, .ref (a 166)), (1, .int s1), (2, .int v1), (3, .int w)]) hx hb dX7_tryWith_60 hl (k := 0) rfl (by rw [ex12]; rfl) (by decide) rfl (fun ls hl => ?_)
              refine lv_goto (tgt := 23) hx hb dX7_tryWith_63 (by decide) ?_
              exact ih4 i11 q11 c11 d11 x12 hI (fr_w hfi (by decide)) (fr_w hfc (by decide)) hKJ hPS hmo hsa (show 0 ≤ x12.toInt ∧ x12.toInt ≤ 30 from by have h50 : x12.toInt = (y4_5.toInt + 1) := tx12; omega) (by have h50 : x12.toInt = (y4_5.toInt + 1) := tx12; omega) _ _ _ hP hD hS (lv_sub hl [0, 1, 2, 3, 4, 5] rfl)
    exact lp4 _ i q c d (0 : Int32) hI (fr_w hfi (by decide)) (fr_w hfc (by decide)) hKJ hPS hmo hsa (show 0 ≤ (0 : Int32).toInt ∧ (0 : Int32).toInt ≤ 30 from by have h50 : (0 : Int32).toInt = 0 := (by decide); omega) (Nat.lt_succ_self _) _ _ _ hP hD hS (lv_sub hl [0, 1, 2, 3, 4, 5] rfl)
  refine lv_if_eq (tgt := 17) hx hb dX7_tryWith_4 (by decide) (fun c13 => ?_) (fun c13 => ?_)
  · have f13 := fl_f hw2 c13
    refine lv_iconst (v := 1) hx hb dX7_tryWith_17 (by decide) ?_
    exact jn3  (1 : Int32) (show 0 ≤ (1 : Int32).toInt ∧ (1 : Int32).toInt ≤ 30 from by have h54 : (1 : Int32).toInt = 1 := (by decide); omega) _ _ _ hP hD hS (lv_sub hl [0, 1, 2, 3] rfl)
  · have f13 := fl_t hw2 c13
    refine lv_aload_n hx hb dX7_tryWith_7 rfl (lv_at hl 0 rfl) ?_
    refine xgS_S_world hx hb hts (fun _ h => List.mem_cons_of_mem _ (List.mem_append_left _ (List.mem_append_left _ (List.mem_append_left _ (List.mem_append_left _ (List.mem_append_left _ (List.mem_append_left _ (List.mem_append_right _ h)))))))) hown hK hP (hts (.fieldLink RX7 30 "TalePlay$Seeker" "world" "LTalePlay$World;") (by decide +kernel)) dX7_tryWith_8 ?_
    refine xgS_W_objects (v := (i 111)) rfl hx hb hts (fun _ h => List.mem_cons_of_mem _ (List.mem_append_left _ (List.mem_append_left _ (List.mem_append_left _ (List.mem_append_right _ h))))) hown hK hP (hts (.fieldLink RX7 125 "TalePlay$World" "objects" "I") (by decide +kernel)) dX7_tryWith_11 ?_
    have rb111_i : 0 ≤ (i 111).toInt ∧ (i 111).toInt ≤ 30 := hI.1 111
    refine lv_goto (tgt := 18) hx hb dX7_tryWith_14 (by decide) ?_
    exact jn3  (i 111) (show 0 ≤ (i 111).toInt ∧ (i 111).toInt ≤ 30 from by omega) _ _ _ hP hD hS (lv_sub hl [0, 1, 2, 3] rfl)

def wm_X7_tryFrom : List Cond := .code yX7_tryFrom cX7_tryFrom 5 none :: (([.fieldLink RX7 9 "TalePlay$Seeker" "kept" "[I", .fieldLink RX7 39 "TalePlay$Seeker" "scene" "LTalePlay$Scene;", .fieldLink RX7 65 "TalePlay$Scene" "cells" "[I", .methodLink RX7 68 arraycopyName, .native arraycopyName, .static arraycopyName, .initialized "java/lang/System", .fieldLink RX7 48 "TalePlay$Seeker" "sight" "LTalePlay$Sight;", .fieldLink RX7 57 "TalePlay$Seeker" "acts" "LTalePlay$Acts;", .fieldLink RX7 74 "TalePlay$Acts" "player" "I", .methodLink RX7 118 yX8_look, .instanceMethod yX8_look, .selects RX8 yX8_look yX8_look, .initialized RX8, .code yX8_look cX8_look 6 none, .methodLink RX8 30 yX8_shellOf, .instanceMethod yX8_shellOf, .selects RX8 yX8_shellOf yX8_shellOf, .code yX8_shellOf cX8_shellOf 5 (some .int), .fieldLink RX8 26 "TalePlay$Sight" "scene" "LTalePlay$Scene;", .methodLink RX8 62 yX6_holderOf, .instanceMethod yX6_holderOf, .selects RX6 yX6_holderOf yX6_holderOf, .initialized RX6, .code yX6_holderOf cX6_holderOf 3 (some .int), .fieldLink RX6 9 "TalePlay$Scene" "cells" "[I", .fieldLink RX8 18 "TalePlay$Sight" "world" "LTalePlay$World;", .methodLink RX8 34 yX10_sortOf, .instanceMethod yX10_sortOf, .selects RX10 yX10_sortOf yX10_sortOf, .initialized RX10, .code yX10_sortOf cX10_sortOf 2 (some .int), .fieldLink RX10 37 "TalePlay$World" "objects" "I", .fieldLink RX10 15 "TalePlay$World" "sorts" "[I", .fieldLink RX10 21 "TalePlay$World" "kindOf" "[I", .methodLink RX8 65 yX8_isCover, .instanceMethod yX8_isCover, .selects RX8 yX8_isCover yX8_isCover, .code yX8_isCover cX8_isCover 3 (some .boolean), .methodLink RX8 40 yX6_has, .instanceMethod yX6_has, .selects RX6 yX6_has yX6_has, .code yX6_has cX6_has 3 (some .boolean), .fieldLink RX8 46 "TalePlay$Sight" "bright" "Z", .fieldLink RX8 50 "TalePlay$World" "objects" "I", .methodLink RX8 58 yX6_lies, .instanceMethod yX6_lies, .selects RX6 yX6_lies yX6_lies, .code yX6_lies cX6_lies 4 (some .boolean), .fieldLink RX8 9 "TalePlay$Sight" "seen" "[Z", .fieldLink RX8 15 "TalePlay$Sight" "reached" "[Z", .methodLink RX8 54 yX8_isInView, .instanceMethod yX8_isInView, .selects RX8 yX8_isInView yX8_isInView, .code yX8_isInView cX8_isInView 6 (some .boolean), .fieldLink RX8 22 "TalePlay$Sight" "roads" "LTalePlay$Roads;", .methodLink RX8 69 yX5_isSide, .instanceMethod yX5_isSide, .selects RX5 yX5_isSide yX5_isSide, .initialized RX5, .code yX5_isSide cX5_isSide 3 (some .boolean), .fieldLink RX5 24 "TalePlay$Roads" "firstSides" "[I", .fieldLink RX5 27 "TalePlay$Roads" "secondSides" "[I", .methodLink RX7 107 yX7_isEnded, .instanceMethod yX7_isEnded, .selects RX7 yX7_isEnded yX7_isEnded, .initialized RX7, .code yX7_isEnded cX7_isEnded 1 (some .boolean), .fieldLink RX7 83 "TalePlay$Seeker" "found" "I", .fieldLink RX7 86 "TalePlay$Seeker" "states" "I", .methodLink RX7 130 yX0_reasonOfX, .instanceMethod yX0_reasonOfX, .selects RX0 yX0_reasonOfX yX0_reasonOfX, .initialized RX0, .code yX0_reasonOfX cX0_reasonOfX 3 (some .int), .methodLink RX0 42 yX0_reasonToGo, .instanceMethod yX0_reasonToGo, .selects RX0 yX0_reasonToGo yX0_reasonToGo, .code yX0_reasonToGo cX0_reasonToGo 4 (some .int), .methodLink RX0 91 yX0_isByRoom, .instanceMethod yX0_isByRoom, .selects RX0 yX0_isByRoom yX0_isByRoom, .code yX0_isByRoom cX0_isByRoom 1 (some .boolean), .fieldLink RX0 33 "TalePlay$Acts" "scene" "LTalePlay$Scene;", .fieldLink RX0 38 "TalePlay$Acts" "player" "I", .methodLink RX0 80 yX6_formOf, .instanceMethod yX6_formOf, .selects RX6 yX6_formOf yX6_formOf, .code yX6_formOf cX6_formOf 3 (some .int), .fieldLink RX0 9 "TalePlay$Acts" "world" "LTalePlay$World;", .methodLink RX0 83 yX6_holderOf, .methodLink RX0 86 yX10_sortOf, .fieldLink RX0 19 "TalePlay$Acts" "roads" "LTalePlay$Roads;", .fieldLink RX0 95 "TalePlay$Roads" "leads" "[I", .fieldLink RX0 101 "TalePlay$Roads" "doors" "[I", .methodLink RX0 104 yX6_has, .methodLink RX0 46 yX0_reasonToTake, .instanceMethod yX0_reasonToTake, .selects RX0 yX0_reasonToTake yX0_reasonToTake, .code yX0_reasonToTake cX0_reasonToTake 3 (some .int), .fieldLink RX0 34 "TalePlay$Acts" "sight" "LTalePlay$Sight;", .fieldLink RX0 108 "TalePlay$Sight" "seen" "[Z", .methodLink RX0 112 yX6_isUp, .instanceMethod yX6_isUp, .selects RX6 yX6_isUp yX6_isUp, .code yX6_isUp cX6_isUp 5 (some .boolean), .methodLink RX6 25 yX6_holderOf, .methodLink RX0 49 yX0_isHeld, .instanceMethod yX0_isHeld, .selects RX0 yX0_isHeld yX0_isHeld, .code yX0_isHeld cX0_isHeld 2 (some .boolean), .methodLink RX0 74 yX6_lies, .methodLink RX0 115 yX10_isGoods, .instanceMethod yX10_isGoods, .selects RX10 yX10_isGoods yX10_isGoods, .code yX10_isGoods cX10_isGoods 2 (some .boolean), .methodLink RX10 44 yX10_isMovable, .instanceMethod yX10_isMovable, .selects RX10 yX10_isMovable yX10_isMovable, .code yX10_isMovable cX10_isMovable 3 (some .boolean), .methodLink RX10 40 yX10_sortOf, .fieldLink RX0 118 "TalePlay$Sight" "reached" "[Z", .methodLink RX0 121 yX0_isAnothers, .instanceMethod yX0_isAnothers, .selects RX0 yX0_isAnothers yX0_isAnothers, .code yX0_isAnothers cX0_isAnothers 4 (some .boolean), .fieldLink RX0 23 "TalePlay$Acts" "bulks" "LTalePlay$Bulks;", .code yX2_weighBy cX2_weighBy 6 (some .int), .fieldLink RX2 15 "TalePlay$Bulks" "world" "LTalePlay$World;", .methodLink RX2 42 yX10_sortOf, .methodLink RX2 45 yX2_noteBodies, .instanceMethod yX2_noteBodies, .selects RX2 yX2_noteBodies yX2_noteBodies, .initialized RX2, .code yX2_noteBodies cX2_noteBodies 2 none, .fieldLink RX2 60 "TalePlay$Bulks" "BODIES" "[I", .methodLink RX2 63 yX2_note, .instanceMethod yX2_note, .selects RX2 yX2_note yX2_note, .code yX2_note cX2_note 2 none, .fieldLink RX2 27 "TalePlay$Bulks" "tracing" "Z", .fieldLink RX2 49 "TalePlay$World" "sizeOf" "[I", .methodLink RX2 52 yX2_weighThose, .instanceMethod yX2_weighThose, .selects RX2 yX2_weighThose yX2_weighThose, .code yX2_weighThose cX2_weighThose 7 (some .int), .fieldLink RX2 31 "TalePlay$World" "objects" "I", .methodLink RX2 56 yX6_lies, .methodLink RX2 23 yX2_weighBy, .instanceMethod yX2_weighBy, .selects RX2 yX2_weighBy yX2_weighBy, .methodLink RX0 53 yX0_reasonOfShutter, .instanceMethod yX0_reasonOfShutter, .selects RX0 yX0_reasonOfShutter yX0_reasonOfShutter, .code yX0_reasonOfShutter cX0_reasonOfShutter 4 (some .int), .methodLink RX0 137 yX10_isShutter, .instanceMethod yX10_isShutter, .selects RX10 yX10_isShutter yX10_isShutter, .code yX10_isShutter cX10_isShutter 3 (some .boolean), .methodLink RX0 140 yX0_reasonOfLeaf, .static yX0_reasonOfLeaf, .code yX0_reasonOfLeaf cX0_reasonOfLeaf 3 (some .int), .methodLink RX0 57 yX0_reasonToWear, .instanceMethod yX0_reasonToWear, .selects RX0 yX0_reasonToWear yX0_reasonToWear, .code yX0_reasonToWear cX0_reasonToWear 2 (some .int), .methodLink RX0 60 yX0_reasonToEnter, .instanceMethod yX0_reasonToEnter, .selects RX0 yX0_reasonToEnter yX0_reasonToEnter, .code yX0_reasonToEnter cX0_reasonToEnter 3 (some .int), .methodLink RX0 63 yX0_reasonToLeave, .instanceMethod yX0_reasonToLeave, .selects RX0 yX0_reasonToLeave yX0_reasonToLeave, .code yX0_reasonToLeave cX0_reasonToLeave 3 (some .int), .methodLink RX7 134 yX7_tryWith, .instanceMethod yX7_tryWith, .selects RX7 yX7_tryWith yX7_tryWith, .code yX7_tryWith cX7_tryWith 6 none, .methodLink RX7 138 yX0_hasY, .static yX0_hasY, .code yX0_hasY cX0_hasY 1 (some .boolean), .methodLink RX7 141 yX0_reasonOfY, .instanceMethod yX0_reasonOfY, .selects RX0 yX0_reasonOfY yX0_reasonOfY, .code yX0_reasonOfY cX0_reasonOfY 4 (some .int), .methodLink RX0 67 yX0_reasonToPut, .instanceMethod yX0_reasonToPut, .selects RX0 yX0_reasonToPut yX0_reasonToPut, .code yX0_reasonToPut cX0_reasonToPut 4 (some .int), .methodLink RX0 134 yX6_countOf, .instanceMethod yX6_countOf, .selects RX6 yX6_countOf yX6_countOf, .code yX6_countOf cX6_countOf 5 (some .int), .fieldLink RX6 15 "TalePlay$Scene" "world" "LTalePlay$World;", .fieldLink RX6 34 "TalePlay$World" "objects" "I", .methodLink RX6 38 yX6_lies, .methodLink RX0 71 yX0_reasonOfKey, .instanceMethod yX0_reasonOfKey, .selects RX0 yX0_reasonOfKey yX0_reasonOfKey, .code yX0_reasonOfKey cX0_reasonOfKey 3 (some .int), .fieldLink RX0 15 "TalePlay$Acts" "book" "LTalePlay$Book;", .methodLink RX0 144 yX1_keyOf, .instanceMethod yX1_keyOf, .selects RX1 yX1_keyOf yX1_keyOf, .initialized RX1, .code yX1_keyOf cX1_keyOf 3 (some .int), .fieldLink RX1 37 "TalePlay$Book" "keyBy" "[I", .fieldLink RX1 15 "TalePlay$Book" "as" "[I", .methodLink RX7 145 yX7_step, .instanceMethod yX7_step, .selects RX7 yX7_step yX7_step, .code yX7_step cX7_step 10 none, .methodLink RX7 148 yX0_subjectOf, .instanceMethod yX0_subjectOf, .selects RX0 yX0_subjectOf yX0_subjectOf, .code yX0_subjectOf cX0_subjectOf 3 (some .int), .methodLink RX7 151 yX0_outcomeOf, .instanceMethod yX0_outcomeOf, .selects RX0 yX0_outcomeOf yX0_outcomeOf, .code yX0_outcomeOf cX0_outcomeOf 5 (some .int), .fieldLink RX0 149 "TalePlay$Scene" "cells" "[I", .methodLink RX0 152 yX0_subjectOf, .methodLink RX0 155 yX6_placed, .static yX6_placed, .code yX6_placed cX6_placed 3 (some .int), .methodLink RX0 158 yX6_flagged, .static yX6_flagged, .code yX6_flagged cX6_flagged 4 (some .int), .methodLink RX0 162 yX0_placedAs, .instanceMethod yX0_placedAs, .selects RX0 yX0_placedAs yX0_placedAs, .code yX0_placedAs cX0_placedAs 3 (some .int), .fieldLink RX7 15 "TalePlay$Seeker" "marks" "[I", .methodLink RX7 154 yX7_weightOf, .static yX7_weightOf, .code yX7_weightOf cX7_weightOf 1 (some .int), .constant RX7 163 (-1640531535), .methodLink RX7 99 yX7_slotFor, .instanceMethod yX7_slotFor, .selects RX7 yX7_slotFor yX7_slotFor, .code yX7_slotFor cX7_slotFor 4 (some .int), .fieldLink RX7 18 "TalePlay$Seeker" "slots" "[I", .methodLink RX7 164 yX7_isScene, .instanceMethod yX7_isScene, .selects RX7 yX7_isScene yX7_isScene, .code yX7_isScene cX7_isScene 3 (some .boolean), .fieldLink RX7 30 "TalePlay$Seeker" "world" "LTalePlay$World;", .fieldLink RX7 125 "TalePlay$World" "objects" "I", .code yX11_deedOf cX11_deedOf 3 (some .int), .initialized RX11, .static yX11_deedOf, .methodLink RX7 103 yX7_keep, .instanceMethod yX7_keep, .selects RX7 yX7_keep yX7_keep, .code yX7_keep cX7_keep 5 none, .fieldLink RX7 21 "TalePlay$Seeker" "parents" "[I", .fieldLink RX7 24 "TalePlay$Seeker" "deeds" "[I", .fieldLink RX7 77 "TalePlay$Seeker" "goalThing" "I", .methodLink RX7 160 yX6_holderOf, .fieldLink RX7 80 "TalePlay$Seeker" "goalHolder" "I", .methodLink RX7 121 yX0_hasX, .static yX0_hasX, .code yX0_hasX cX0_hasX 1 (some .boolean)] : List Cond) ++ wsX70 ++ wsX60 ++ wsX00 ++ wsX80 ++ wsX100 ++ wsX50 ++ wsX20 ++ wsX10)
set_option maxRecDepth 20000 in
theorem gm_X7_tryFrom_X8_look_SG_118 : GoodIn wm_X7_tryFrom (wsV RX7 118 RX8 yX8_look wm_X8_look_SG) := goodIn_app (goodIn_of _ (by decide +kernel)) (goodIn_r _ [15, 16, 17, 18, 14, 19, 20, 21, 22, 23, 24, 25, 26, 27, 28, 29, 30, 31, 32, 33, 34, 35, 36, 37, 38, 39, 40, 41, 42, 43, 44, 45, 46, 47, 48, 49, 50, 51, 52, 53, 54, 55, 56, 57, 58, 59, 60, 61, 62, 63, 288, 289, 290, 291, 292, 293, 279, 280, 294, 295, 296, 297, 298, 299, 300, 301, 302, 303, 304, 305, 306, 307, 308, 309, 310, 311] rfl (by decide +kernel))
set_option maxRecDepth 20000 in
theorem gm_X7_tryFrom_X7_isEnded_107 : GoodIn wm_X7_tryFrom (wsV RX7 107 RX7 yX7_isEnded wm_X7_isEnded) := goodIn_app (goodIn_of _ (by decide +kernel)) (goodIn_r _ [68, 69, 70, 264, 265, 266, 267, 268, 269, 270, 271, 272, 273, 274, 275, 276, 277, 278] rfl (by decide +kernel))
set_option maxRecDepth 20000 in
theorem gm_X7_tryFrom_X0_reasonOfX_SA_130 : GoodIn wm_X7_tryFrom (wsV RX7 130 RX0 yX0_reasonOfX wm_X0_reasonOfX_SA) := goodIn_app (goodIn_of _ (by decide +kernel)) (goodIn_r _ [75, 76, 77, 78, 74, 79, 80, 81, 82, 83, 84, 85, 86, 87, 88, 24, 89, 26, 90, 91, 22, 23, 25, 92, 29, 30, 31, 32, 33, 34, 35, 93, 94, 95, 96, 41, 42, 43, 97, 98, 99, 100, 101, 102, 103, 104, 105, 106, 107, 108, 109, 110, 111, 112, 47, 48, 49, 113, 114, 115, 116, 117, 118, 119, 120, 121, 122, 123, 124, 125, 126, 127, 128, 129, 130, 131, 132, 133, 134, 135, 136, 137, 138, 139, 140, 141, 142, 143, 144, 145, 146, 147, 148, 149, 150, 151, 152, 153, 154, 155, 156, 157, 158, 159, 160, 161, 162, 163, 164, 165, 166, 167, 168, 169, 170, 171, 172, 173, 174, 281, 282, 283, 284, 285, 286, 287, 279, 280, 294, 295, 296, 297, 298, 299, 300, 301, 302, 303, 304, 305, 306, 307, 308, 309, 310, 311, 288, 289, 290, 291, 292, 293, 312, 313, 314, 315] rfl (by decide +kernel))
set_option maxRecDepth 20000 in
theorem gm_X7_tryFrom_X7_tryWith_134 : GoodIn wm_X7_tryFrom (wsV RX7 134 RX7 yX7_tryWith wm_X7_tryWith) := goodIn_app (goodIn_of _ (by decide +kernel)) (goodIn_r _ [178, 179, 180, 74, 181, 64, 65, 66, 67, 68, 69, 70, 9, 182, 183, 184, 185, 186, 187, 188, 189, 101, 102, 90, 92, 29, 30, 31, 32, 33, 34, 35, 84, 103, 104, 105, 24, 106, 107, 22, 23, 25, 26, 122, 190, 191, 192, 193, 194, 195, 196, 47, 48, 49, 96, 41, 42, 43, 197, 198, 199, 200, 108, 109, 110, 111, 85, 112, 201, 202, 203, 204, 205, 206, 207, 208, 209, 210, 211, 212, 213, 214, 215, 216, 2, 3, 217, 218, 219, 220, 221, 222, 93, 94, 91, 223, 224, 225, 86, 87, 88, 89, 226, 227, 228, 229, 230, 231, 232, 233, 234, 235, 236, 237, 238, 239, 240, 241, 242, 243, 244, 245, 246, 247, 248, 1, 249, 250, 251, 252, 253, 254, 255, 4, 5, 6, 7, 256, 257, 258, 259, 260, 264, 265, 266, 267, 268, 269, 270, 271, 272, 273, 274, 275, 276, 277, 278, 281, 282, 283, 284, 285, 286, 287, 288, 289, 290, 291, 292, 293, 294, 295, 296, 297, 298, 299, 300, 279, 280, 316, 317, 318, 319, 320, 321, 322, 323, 324, 325, 326, 327, 328, 329, 330, 301, 302, 303, 304, 305, 306, 307, 308, 309, 310, 311] rfl (by decide +kernel))
set_option maxRecDepth 20000 in
theorem gm_X7_tryFrom_X0_hasX_121 : GoodIn wm_X7_tryFrom (va_wsS RX7 121 yX0_hasX wm_X0_hasX) := goodIn_app (goodIn_of _ (by decide +kernel)) (goodIn_r _ [263] rfl (by decide +kernel))
set_option maxHeartbeats 4000000 in
set_option maxRecDepth 100000 in
theorem x_X7_tryFrom (l : Launch) (D : va_G) (sz : Nat) (sk : Value) (a : Nat → Nat) (t : Nat → ClassId) (i : Nat → Int32) (q : Int64) (c : Nat → Nat → Int32) (d : Nat → Nat → Int64) (s1 : Int32) (hI : xInv i c) (hs1 : 0 ≤ s1.toInt ∧ s1.toInt ≤ 299) (hsl : s1.toInt < (i 174).toInt) (hsp : 0 ≤ (i 185).toInt ∧ (i 185).toInt ≤ 29) (htr : (i 141).toInt = 0) (hKJ : KJ (c 167) (i 174).toInt (i 185)) : Met l yX7_tryFrom wm_X7_tryFrom ({ frames := 71, cells := 0, slots := 0, locals := 1850 }) (va_Pc [.ref (a 166), .int s1] (yB (a 186) D sz (xwS sk a t i q c d) (xtS t))) (va_Qv (fun (u : MS) => True ∧ xInv u.1 u.2.2.1 ∧ (∀ k, k ∉ ([174, 175, 183] : List Nat) → u.1 k = i k) ∧ (∀ k, k ∉ ([167, 168, 169, 170, 171, 179, 181, 182] : List Nat) → u.2.2.1 k = c k) ∧ (KJ (u.2.2.1 167) (u.1 174).toInt (u.1 185)) ∧ ((i 174).toInt ≤ (u.1 174).toInt)) (oC D (va_A (xwS sk a t i q c d) sz) (fun u : MS => xwS sk a t u.1 u.2.1 u.2.2.1 u.2.2.2) (fun _ => [])) (va_A (xwS sk a t i q c d) sz)) 0 0 (va_A (xwS sk a t i q c d) sz) := by
  refine Met.ofW (cc := cX7_tryFrom) (maxL := 5) (ret := none) (by decide) rfl ?_
  intro p e s m args below meth cd s₁ B hml hv
  obtain ⟨rfl, ⟨hsz, hP, hK, hD0⟩, hN, hZ, hBW⟩ := hv
  have hx := B.exec
  have hb := B.bytes
  have hr := B.returns
  have hts := atoms_spec (ws := wm_X7_tryFrom) B.pre
  have hown : s.vm.findClass RX7 = some m.cls := findClass_of_methodNamed B.named
  have hlocks := B.notSynchronized
  subst hsz
  have hD := hD0.self (sz := s.heap.size)
  have hZ := xZ_A hZ hP hBW
  generalize hAe : va_A (xwS sk a t i q c d) s.heap.size = A at hD hZ ⊢
  have hA : ∀ q : Nat, s.heap.size ≤ q → A q := fun q h => by rw [← hAe]; exact Or.inr h
  have hS : va_S A s.heap s.heap [] := va_S.rf
  have hfi : ∀ k, k ∉ ([] : List Nat) → i k = i k := fun _ _ => rfl
  have hfc : ∀ k, k ∉ ([] : List Nat) → c k = c k := fun _ _ => rfl
  have hl := lv_entry ([.ref (a 166), .int s1]) (n := 5) (Nat.le_of_ble_eq_true rfl)
  rw [lg_entry_eq]
  generalize (lg_sl ([.ref (a 166), .int s1]) ++ List.replicate (5 - (lg_sl ([.ref (a 166), .int s1])).length) Slot.unset).toArray = ls at hl ⊢
  have hl : lv_has ls 5 [(0, .ref (a 166)), (1, .int s1)] := hl
  have hKJ : KJ (c 167) ((i 174) : Int32).toInt ((i 185) : Int32) := hKJ
  have hmo : (i 174).toInt ≤ ((i 174) : Int32).toInt := Int.le_refl _
  refine lv_aload_n hx hb dX7_tryFrom_0 rfl (lv_at hl 0 rfl) ?_
  refine xgS_S_kept hx hb hts (fun _ h => List.mem_cons_of_mem _ (List.mem_append_left _ (List.mem_append_left _ (List.mem_append_left _ (List.mem_append_left _ (List.mem_append_left _ (List.mem_append_left _ (List.mem_append_left _ (List.mem_append_right _ h))))))))) hown hK hP (hts (.fieldLink RX7 9 "TalePlay$Seeker" "kept" "[I") (by decide +kernel)) dX7_tryFrom_1 ?_
  refine lv_iload_n hx hb dX7_tryFrom_4 rfl (lv_at hl 1 rfl) ?_
  refine lv_bipush (v := 30) hx hb dX7_tryFrom_5 (by decide) ?_
  refine lv_imul hx hb dX7_tryFrom_7 ?_
  refine lv_topi (fun x1 ex1 => ?_)
  have tx1 := ti_mul (a := s1.toInt) (b := 30) ex1 rfl (by decide) (by omega) (by omega)
  refine lv_aload_n hx hb dX7_tryFrom_8 rfl (lv_at hl 0 rfl) ?_
  refine xgS_S_scene hx hb hts (fun _ h => List.mem_cons_of_mem _ (List.mem_append_left _ (List.mem_append_left _ (List.mem_append_left _ (List.mem_append_left _ (List.mem_append_left _ (List.mem_append_left _ (List.mem_append_left _ (List.mem_append_right _ h))))))))) hown hK hP (hts (.fieldLink RX7 39 "TalePlay$Seeker" "scene" "LTalePlay$Scene;") (by decide +kernel)) dX7_tryFrom_9 ?_
  refine xgS_SS_cells hx hb hts (fun _ h => List.mem_cons_of_mem _ (List.mem_append_left _ (List.mem_append_left _ (List.mem_append_left _ (List.mem_append_left _ (List.mem_append_left _ (List.mem_append_left _ (List.mem_append_right _ h)))))))) hown hK hP (hts (.fieldLink RX7 65 "TalePlay$Scene" "cells" "[I") (by decide +kernel)) dX7_tryFrom_12 ?_
  refine lv_iconst (v := 0) hx hb dX7_tryFrom_15 (by decide) ?_
  refine lv_bipush (v := 30) hx hb dX7_tryFrom_16 (by decide) ?_
  refine va_copyi (sp := x1) (dp := 0) (n := 30) hx hb (hml.trans hl.1.symm) hown (hts (.methodLink RX7 68 arraycopyName) (by decide +kernel)) (hts (.native arraycopyName) (by decide +kernel)) (hts (.static arraycopyName) (by decide +kernel)) (hts (.initialized "java/lang/System") (by decide +kernel)) hK hP hD hS 32 39 26 32 rfl rfl rfl rfl rfl (mt (ti_lt (a := (s1.toInt * 30)) (b := 0) tx1 (by decide)).mp (by omega)) (by decide) (by decide) (by show (x1 : Int32).toInt.toNat + (30 : Int32).toInt.toNat ≤ 9000; have h80 : (x1 : Int32).toInt = (s1.toInt * 30) := tx1; have h81 : (30 : Int32).toInt = 30 := (by decide); omega) (by show (0 : Int32).toInt.toNat + (30 : Int32).toInt.toNat ≤ 30; have h80 : (0 : Int32).toInt = 0 := (by decide); have h81 : (30 : Int32).toInt = 30 := (by decide); omega) (fun _ _ => rfl) (Nat.le_of_ble_eq_true rfl) (Nat.le_of_ble_eq_true rfl) dX7_tryFrom_18 (fun H locs hP hD hS => ?_)
  have hP : va_P D vwCl (xwS sk a t i q (updF c 179 (va_cpy (c 167) (c 179) (x1 : Int32).toNatClampNeg (0 : Int32).toNatClampNeg (30 : Int32).toNatClampNeg)) d) H := hP
  have hD : va_D A (xwS sk a t i q (updF c 179 (va_cpy (c 167) (c 179) (x1 : Int32).toNatClampNeg (0 : Int32).toNatClampNeg (30 : Int32).toNatClampNeg)) d) := hD
  have hI := xInv_f hI (k := 179) (f := (va_cpy (c 167) (c 179) (x1 : Int32).toNatClampNeg (0 : Int32).toNatClampNeg (30 : Int32).toNatClampNeg)) (fun j => by unfold va_cpy; split; (· exact hI.2 167 _); (· exact hI.2 179 _))
  have hfc : ∀ k, k ∉ ([179] : List Nat) → (updF c 179 (va_cpy (c 167) (c 179) (x1 : Int32).toNatClampNeg (0 : Int32).toNatClampNeg (30 : Int32).toNatClampNeg)) k = c k := fr_f hfc (by decide) (by decide)
  have hPS : PS ((updF c 179 (va_cpy (c 167) (c 179) (x1 : Int32).toNatClampNeg (0 : Int32).toNatClampNeg (30 : Int32).toNatClampNeg)) 179) ((i 185) : Int32) := PS_k (s := s1) (sp := x1) (z := 0) (tt := 30) hKJ hsp (by omega) hsl tx1 (by decide) (by decide)
  have hKJ : KJ ((updF c 179 (va_cpy (c 167) (c 179) (x1 : Int32).toNatClampNeg (0 : Int32).toNatClampNeg (30 : Int32).toNatClampNeg)) 167) ((i 174) : Int32).toInt ((i 185) : Int32) := hKJ
  have hmo : (i 174).toInt ≤ ((i 174) : Int32).toInt := hmo
  refine lv_aload_n hx hb dX7_tryFrom_21 rfl (lv_at hl 0 rfl) ?_
  refine xgS_S_sight hx hb hts (fun _ h => List.mem_cons_of_mem _ (List.mem_append_left _ (List.mem_append_left _ (List.mem_append_left _ (List.mem_append_left _ (List.mem_append_left _ (List.mem_append_left _ (List.mem_append_left _ (List.mem_append_right _ h))))))))) hown hK hP (hts (.fieldLink RX7 48 "TalePlay$Seeker" "sight" "LTalePlay$Sight;") (by decide +kernel)) dX7_tryFrom_22 ?_
  refine lv_aload_n hx hb dX7_tryFrom_25 rfl (lv_at hl 0 rfl) ?_
  refine xgS_S_acts hx hb hts (fun _ h => List.mem_cons_of_mem _ (List.mem_append_left _ (List.mem_append_left _ (List.mem_append_left _ (List.mem_append_left _ (List.mem_append_left _ (List.mem_append_left _ (List.mem_append_left _ (List.mem_append_right _ h))))))))) hown hK hP (hts (.fieldLink RX7 57 "TalePlay$Seeker" "acts" "LTalePlay$Acts;") (by decide +kernel)) dX7_tryFrom_26 ?_
  refine xgS_SA_player (v := (i 185)) rfl hx hb hts (fun _ h => List.mem_cons_of_mem _ (List.mem_append_left _ (List.mem_append_left _ (List.mem_append_left _ (List.mem_append_left _ (List.mem_append_left _ (List.mem_append_right _ h))))))) hown hK hP (hts (.fieldLink RX7 74 "TalePlay$Acts" "player" "I") (by decide +kernel)) dX7_tryFrom_29 ?_
  have rb185_i : (i 185).toInt = -9 ∨ (0 ≤ (i 185).toInt ∧ (i 185).toInt ≤ 29) := hI.1 185
  refine al_callv (va_runV (As := [.int (i 185)]) (rest := []) ⟨hx, hb, hml, hown, hts⟩ (x_X8_look_SG l D H.size .null a t i q (updF c 179 (va_cpy (c 167) (c 179) (x1 : Int32).toNatClampNeg (0 : Int32).toNatClampNeg (30 : Int32).toNatClampNeg)) d (i 185) hI (show 0 ≤ (i 185).toInt ∧ (i 185).toInt ≤ 29 from by omega)) (cwV 1 hts gm_X7_tryFrom_X8_look_SG_118 rfl rfl rfl (by decide +kernel) ⟨Nat.le_of_ble_eq_true rfl, Nat.le_of_ble_eq_true rfl⟩) (yB_V hN (xZ_k hZ hS hA) (xZ_n hZ hD) hK hP hD (ci := 8) (q0 := 40) rfl rfl) rfl rfl hl.1 rfl (lv_room (Nat.le_of_ble_eq_true rfl)) dX7_tryFrom_32 ⟨Nat.le_of_ble_eq_true rfl, Nat.le_of_ble_eq_true rfl⟩) hS hA hP hD (fun u3 H locs hw3 hP hD hS => ?_)
  obtain ⟨i3, q3, c3, d3⟩ := u3
  have hw3 : True ∧ xInv i3 c3 ∧ (∀ k, k ∉ ([183] : List Nat) → i3 k = i k) ∧ (∀ k, k ∉ ([181, 182] : List Nat) → c3 k = (updF c 179 (va_cpy (c 167) (c 179) (x1 : Int32).toNatClampNeg (0 : Int32).toNatClampNeg (30 : Int32).toNatClampNeg)) k) := hw3
  obtain ⟨hw3, hI, hei3, hec3⟩ := hw3
  have hfi : ∀ k, k ∉ ([183] : List Nat) → i3 k = i k := fr_z hfi hei3 (by decide) (by decide)
  have hfc : ∀ k, k ∉ ([179, 181, 182] : List Nat) → c3 k = c k := fr_z hfc hec3 (by decide) (by decide)
  have hPS : PS (c3 179) ((i3 185) : Int32) := by rw [show c3 179 = (updF c 179 (va_cpy (c 167) (c 179) (x1 : Int32).toNatClampNeg (0 : Int32).toNatClampNeg (30 : Int32).toNatClampNeg)) 179 from hec3 179 (by decide), show i3 185 = i 185 from hei3 185 (by decide)]; exact hPS
  have hKJ : KJ (c3 167) ((i3 174) : Int32).toInt ((i3 185) : Int32) := by rw [show c3 167 = (updF c 179 (va_cpy (c 167) (c 179) (x1 : Int32).toNatClampNeg (0 : Int32).toNatClampNeg (30 : Int32).toNatClampNeg)) 167 from hec3 167 (by decide), show i3 174 = i 174 from hei3 174 (by decide), show i3 185 = i 185 from hei3 185 (by decide)]; exact hKJ
  have hmo : (i 174).toInt ≤ ((i3 174) : Int32).toInt := by rw [show i3 174 = i 174 from hei3 174 (by decide)]; exact hmo
  refine lv_iconst (v := 0) hx hb dX7_tryFrom_35 (by decide) ?_
  refine lv_istore_n (lv' := [(2, .int 0), (0, .ref (a 166)), (1, .int s1)]) hx hb dX7_tryFrom_36 rfl hl (by decide) rfl (fun ls hl => ?_)
  have lp4 : ∀ (fu : Nat) (i4 : Nat → Int32) (q4 : Int64) (c4 : Nat → Nat → Int32) (d4 : Nat → Nat → Int64) (y4_2 : Int32), xInv i4 c4 → (∀ k, k ∉ ([174, 175, 183] : List Nat) → i4 k = i k) → (∀ k, k ∉ ([167, 168, 169, 170, 171, 179, 181, 182] : List Nat) → c4 k = c k) → (PS (c4 179) ((i4 185) : Int32)) → (KJ (c4 167) ((i4 174) : Int32).toInt ((i4 185) : Int32)) → ((i 174).toInt ≤ ((i4 174) : Int32).toInt) → (0 ≤ y4_2.toInt ∧ y4_2.toInt ≤ 12) → (12 - y4_2.toInt).toNat < fu → ∀ (H : Heap) (locs : List Loc) (ls : Array Slot), va_P D vwCl (xwS sk a t i4 q4 c4 d4) H → va_D A (xwS sk a t i4 q4 c4 d4) → va_S A s.heap H locs → lv_has ls 5 [(2, .int y4_2), (0, .ref (a 166)), (1, .int s1)] → W p l e (headSpec wm_X7_tryFrom ({ frames := 71, cells := 0, slots := 0, locals := 1850 })).room s m ([.ref (a 166), .int s1] : List Value).toArray below meth cd H locs 0 0 (MQ below (va_Qv (fun (u : MS) => True ∧ xInv u.1 u.2.2.1 ∧ (∀ k, k ∉ ([174, 175, 183] : List Nat) → u.1 k = i k) ∧ (∀ k, k ∉ ([167, 168, 169, 170, 171, 179, 181, 182] : List Nat) → u.2.2.1 k = c k) ∧ (KJ (u.2.2.1 167) (u.1 174).toInt (u.1 185)) ∧ ((i 174).toInt ≤ (u.1 174).toInt)) (oC D A (fun u : MS => xwS sk a t u.1 u.2.1 u.2.2.1 u.2.2.2) (fun _ => [])) A) ([.ref (a 166), .int s1] : List Value).toArray s 0 0 A) (F0 m 37 ls []) := by
    intro fu
    induction fu with
    | zero => intro i4 q4 c4 d4 y4_2 hI hfi hfc hPS hKJ hmo hy4_2 hm; exact absurd hm (Nat.not_lt_zero _)
    | succ fu ih =>
      intro i4 q4 c4 d4 y4_2 hI hfi hfc hPS hKJ hmo hy4_2 hm H locs ls hP hD hS hl
      have ih4 := ih
      refine lv_iload_n hx hb dX7_tryFrom_37 rfl (lv_at hl 0 rfl) ?_
      refine lv_bipush (v := 11) hx hb dX7_tryFrom_38 (by decide) ?_
      refine lv_icmp_gt (tgt := 120) hx hb dX7_tryFrom_40 (by decide) (fun c5 => ?_) (fun c5 => ?_)
      · have f5 := (ti_lt (a := 11) (b := y4_2.toInt) (by decide) rfl).mp c5
        exact rw_vret (i4, q4, c4, d4) hx hb hr hlocks hS (hK.sub (tys' := []) [] rfl) hP hD dX7_tryFrom_120 ⟨trivial, hI, fr_w hfi (by decide), fr_w hfc (by decide), (show KJ (c4 167) ((i4 174) : Int32).toInt ((i4 185) : Int32) from hKJ), (show (i 174).toInt ≤ ((i4 174) : Int32).toInt from hmo)⟩
      · have f5 := mt (ti_lt (a := 11) (b := y4_2.toInt) (by decide) rfl).mpr c5
        refine lv_iload_n hx hb dX7_tryFrom_43 rfl (lv_at hl 0 rfl) ?_
        have jn6 : ∀ (z6_0 : Int32), (0 ≤ z6_0.toInt ∧ z6_0.toInt ≤ 30 ∧ (y4_2.toInt = 0 → z6_0.toInt = 10)) → ∀ (H : Heap) (locs : List Loc) (ls : Array Slot), va_P D vwCl (xwS sk a t i4 q4 c4 d4) H → va_D A (xwS sk a t i4 q4 c4 d4) → va_S A s.heap H locs → lv_has ls 5 [(2, .int y4_2), (0, .ref (a 166)), (1, .int s1)] → W p l e (headSpec wm_X7_tryFrom ({ frames := 71, cells := 0, slots := 0, locals := 1850 })).room s m ([.ref (a 166), .int s1] : List Value).toArray below meth cd H locs 0 0 (MQ below (va_Qv (fun (u : MS) => True ∧ xInv u.1 u.2.2.1 ∧ (∀ k, k ∉ ([174, 175, 183] : List Nat) → u.1 k = i k) ∧ (∀ k, k ∉ ([167, 168, 169, 170, 171, 179, 181, 182] : List Nat) → u.2.2.1 k = c k) ∧ (KJ (u.2.2.1 167) (u.1 174).toInt (u.1 185)) ∧ ((i 174).toInt ≤ (u.1 174).toInt)) (oC D A (fun u : MS => xwS sk a t u.1 u.2.1 u.2.2.1 u.2.2.2) (fun _ => [])) A) ([.ref (a 166), .int s1] : List Value).toArray s 0 0 A) (F0 m 70 ls [.int z6_0]) := by
          intro z6_0 hs6_0 H locs ls hP hD hS hl
          refine lv_istore_n (lv' := [(3, .int z6_0), (2, .int y4_2), (0, .ref (a 166)), (1, .int s1)]) hx hb dX7_tryFrom_70 rfl hl (by decide) rfl (fun ls hl => ?_)
          refine lv_iconst (v := 0) hx hb dX7_tryFrom_71 (by decide) ?_
          refine lv_istore (lv' := [(4, .int 0), (3, .int z6_0), (2, .int y4_2), (0, .ref (a 166)), (1, .int s1)]) hx hb dX7_tryFrom_72 hl (by decide) rfl (fun ls hl => ?_)
          have lp7 : ∀ (fu : Nat) (i7 : Nat → Int32) (q7 : Int64) (c7 : Nat → Nat → Int32) (d7 : Nat → Nat → Int64) (y7_4 : Int32), xInv i7 c7 → (∀ k, k ∉ ([174, 175, 183] : List Nat) → i7 k = i k) → (∀ k, k ∉ ([167, 168, 169, 170, 171, 179, 181, 182] : List Nat) → c7 k = c k) → (PS (c7 179) ((i7 185) : Int32)) → (KJ (c7 167) ((i7 174) : Int32).toInt ((i7 185) : Int32)) → ((i 174).toInt ≤ ((i7 174) : Int32).toInt) → (0 ≤ y7_4.toInt ∧ y7_4.toInt ≤ 30) → (30 - y7_4.toInt).toNat < fu → ∀ (H : Heap) (locs : List Loc) (ls : Array Slot), va_P D vwCl (xwS sk a t i7 q7 c7 d7) H → va_D A (xwS sk a t i7 q7 c7 d7) → va_S A s.heap H locs → lv_has ls 5 [(4, .int y7_4), (3, .int z6_0), (2, .int y4_2), (0, .ref (a 166)), (1, .int s1)] → W p l e (headSpec wm_X7_tryFrom ({ frames := 71, cells := 0, slots := 0, locals := 1850 })).room s m ([.ref (a 166), .int s1] : List Value).toArray below meth cd H locs 0 0 (MQ below (va_Qv (fun (u : MS) => True ∧ xInv u.1 u.2.2.1 ∧ (∀ k, k ∉ ([174, 175, 183] : List Nat) → u.1 k = i k) ∧ (∀ k, k ∉ ([167, 168, 169, 170, 171, 179, 181, 182] : List Nat) → u.2.2.1 k = c k) ∧ (KJ (u.2.2.1 167) (u.1 174).toInt (u.1 185)) ∧ ((i 174).toInt ≤ (u.1 174).toInt)) (oC D A (fun u : MS => xwS sk a t u.1 u.2.1 u.2.2.1 u.2.2.2) (fun _ => [])) A) ([.ref (a 166), .int s1] : List Value).toArray s 0 0 A) (F0 m 74 ls []) := by
            intro fu
            induction fu with
            | zero => intro i7 q7 c7 d7 y7_4 hI hfi hfc hPS hKJ hmo hy7_4 hm; exact absurd hm (Nat.not_lt_zero _)
            | succ fu ih =>
              intro i7 q7 c7 d7 y7_4 hI hfi hfc hPS hKJ hmo hy7_4 hm H locs ls hP hD hS hl
              have ih7 := ih
              refine lv_iload hx hb dX7_tryFrom_74 (lv_at hl 0 rfl) ?_
              refine lv_iload_n hx hb dX7_tryFrom_76 rfl (lv_at hl 1 rfl) ?_
              refine lv_icmp_ge (tgt := 114) hx hb dX7_tryFrom_77 (by decide) (fun c8 => ?_) (fun c8 => ?_)
              · have f8 := (ti_le (a := z6_0.toInt) (b := y7_4.toInt) rfl rfl).mp c8
                obtain ⟨x9, ex9⟩ : ∃ y : Int32, y = y4_2 + 1 := ⟨_, rfl⟩
                have tx9 := ti_add (a := y4_2.toInt) (b := 1) ex9 rfl (by decide) (by omega) (by omega)
                refine lv_iinc (v := x9) (lv' := [(2, .int x9), (4, .int y7_4), (3, .int z6_0), (0, .ref (a 166)), (1, .int s1)]) hx hb dX7_tryFrom_114 hl (k := 2) rfl (by rw [ex9]; rfl) (by decide) rfl (fun ls hl => ?_)
                refine lv_goto (tgt := 37) hx hb dX7_tryFrom_117 (by decide) ?_
                exact ih4 i7 q7 c7 d7 x9 hI (fr_w hfi (by decide)) (fr_w hfc (by decide)) hPS hKJ hmo (show 0 ≤ x9.toInt ∧ x9.toInt ≤ 12 from by have h50 : x9.toInt = (y4_2.toInt + 1) := tx9; omega) (by have h50 : x9.toInt = (y4_2.toInt + 1) := tx9; omega) _ _ _ hP hD hS (lv_sub hl [0, 3, 4] rfl)
              · have f8 := mt (ti_le (a := z6_0.toInt) (b := y7_4.toInt) rfl rfl).mpr c8
                refine lv_aload_n hx hb dX7_tryFrom_80 rfl (lv_at hl 3 rfl) ?_
                have rb174_i7 : 0 ≤ (i7 174).toInt ∧ (i7 174).toInt ≤ 300 := hI.1 174
                have rb175_i7 : (i7 175).toInt = -9 ∨ (0 ≤ (i7 175).toInt ∧ (i7 175).toInt ≤ 299) := hI.1 175
                refine ro_calli (va_runV (As := []) (rest := []) ⟨hx, hb, hml, hown, hts⟩ (x_X7_isEnded l D H.size .null a t i7 q7 c7 d7  hI ) (cwV 0 hts gm_X7_tryFrom_X7_isEnded_107 rfl rfl rfl (by decide +kernel) ⟨Nat.le_of_ble_eq_true rfl, Nat.le_of_ble_eq_true rfl⟩) (yA_V hN (xZ_k hZ hS hA) hK hP (ci := 7) (q0 := 31) rfl rfl) rfl rfl hl.1 rfl (lv_room (Nat.le_of_ble_eq_true rfl)) dX7_tryFrom_81 ⟨Nat.le_of_ble_eq_true rfl, Nat.le_of_ble_eq_true rfl⟩) hS hA hP (fun r10 u10 H locs hw10 hP hS => ?_)
                have hw10 : r10 = if (¬ (i7 175).toInt = -9 ∨ 300 ≤ (i7 174).toInt) then 1 else 0 := hw10
                refine lv_if_ne (tgt := 114) hx hb dX7_tryFrom_84 (by decide) (fun c11 => ?_) (fun c11 => ?_)
                · have f11 := fl_t hw10 c11
                  obtain ⟨x12, ex12⟩ : ∃ y : Int32, y = y4_2 + 1 := ⟨_, rfl⟩
                  have tx12 := ti_add (a := y4_2.toInt) (b := 1) ex12 rfl (by decide) (by omega) (by omega)
                  refine lv_iinc (v := x12) (lv' := [(2, .int x12), (4, .int y7_4), (3, .int z6_0), (0, .ref (a 166)), (1, .int s1)]) hx hb dX7_tryFrom_114 hl (k := 2) rfl (by rw [ex12]; rfl) (by decide) rfl (fun ls hl => ?_)
                  refine lv_goto (tgt := 37) hx hb dX7_tryFrom_117 (by decide) ?_
                  exact ih4 i7 q7 c7 d7 x12 hI (fr_w hfi (by decide)) (fr_w hfc (by decide)) hPS hKJ hmo (show 0 ≤ x12.toInt ∧ x12.toInt ≤ 12 from by have h50 : x12.toInt = (y4_2.toInt + 1) := tx12; omega) (by have h50 : x12.toInt = (y4_2.toInt + 1) := tx12; omega) _ _ _ hP hD hS (lv_sub hl [0, 3, 4] rfl)
                · have f11 := fl_f hw10 c11
                  refine lv_aload_n hx hb dX7_tryFrom_87 rfl (lv_at hl 3 rfl) ?_
                  refine xgS_S_acts hx hb hts (fun _ h => List.mem_cons_of_mem _ (List.mem_append_left _ (List.mem_append_left _ (List.mem_append_left _ (List.mem_append_left _ (List.mem_append_left _ (List.mem_append_left _ (List.mem_append_left _ (List.mem_append_right _ h))))))))) hown hK hP (hts (.fieldLink RX7 57 "TalePlay$Seeker" "acts" "LTalePlay$Acts;") (by decide +kernel)) dX7_tryFrom_88 ?_
                  refine lv_iload_n hx hb dX7_tryFrom_91 rfl (lv_at hl 2 rfl) ?_
                  refine lv_iload hx hb dX7_tryFrom_92 (lv_at hl 0 rfl) ?_
                  have rb141_i7 : 0 ≤ (i7 141).toInt ∧ (i7 141).toInt ≤ 1 := hI.1 141
                  have re141_i7 : (i7 141).toInt = (i 141).toInt := congrArg Int32.toInt (hfi 141 (by decide))
                  have rb185_i7 : (i7 185).toInt = -9 ∨ (0 ≤ (i7 185).toInt ∧ (i7 185).toInt ≤ 29) := hI.1 185
                  have re185_i7 : (i7 185).toInt = (i 185).toInt := congrArg Int32.toInt (hfi 185 (by decide))
                  refine ro_calli (va_runV (As := [.int y4_2, .int y7_4]) (rest := []) ⟨hx, hb, hml, hown, hts⟩ (x_X0_reasonOfX_SA l D H.size .null a t i7 q7 c7 d7 y4_2 y7_4 hI (show y4_2.toInt = 0 → 0 ≤ y7_4.toInt ∧ y7_4.toInt ≤ 9 from by omega) (show 1 ≤ y4_2.toInt ∧ y4_2.toInt ≤ 10 → 0 ≤ y7_4.toInt ∧ y7_4.toInt ≤ 29 from by omega) (show 0 ≤ ((i7 185) : Int32).toInt ∧ ((i7 185) : Int32).toInt ≤ 29 from by omega) (show ((i7 141) : Int32).toInt = 0 from by omega)) (cwV 2 hts gm_X7_tryFrom_X0_reasonOfX_SA_130 rfl rfl rfl (by decide +kernel) ⟨Nat.le_of_ble_eq_true rfl, Nat.le_of_ble_eq_true rfl⟩) (yA_V hN (xZ_k hZ hS hA) hK hP (ci := 0) (q0 := 43) rfl rfl) rfl rfl hl.1 rfl (lv_room (Nat.le_of_ble_eq_true rfl)) dX7_tryFrom_94 ⟨Nat.le_of_ble_eq_true rfl, Nat.le_of_ble_eq_true rfl⟩) hS hA hP (fun r13 u13 H locs hw13 hP hS => ?_)
                  have hw13 : (True ∧ (Im (r13.toInt = 0) (Im (y4_2.toInt = 0) (AG (c7 179) (c7 129) (i7 185) y7_4))) ∧ (Im (r13.toInt = 0) (Im (y4_2.toInt = 11) (AL (c7 179) (i7 185))))) := hw13
                  obtain ⟨hw13, hr13_0, hr13_1⟩ := hw13
                  have hr13_0 : Im (r13.toInt = 0) (Im (y4_2.toInt = 0) (AG (c7 179) (c 129) (i 185) y7_4)) := by have h9 := hr13_0; rw [show c7 129 = c 129 from hfc 129 (by decide), show i7 185 = i 185 from hfi 185 (by decide)] at h9; exact h9
                  have hr13_1 : Im (r13.toInt = 0) (Im (y4_2.toInt = 11) (AL (c7 179) (i 185))) := by have h9 := hr13_1; rw [show i7 185 = i 185 from hfi 185 (by decide)] at h9; exact h9
                  refine lv_if_ne (tgt := 108) hx hb dX7_tryFrom_97 (by decide) (fun c14 => ?_) (fun c14 => ?_)
                  · have f14 := mt (ti_eq (a := r13.toInt) (b := 0) rfl (by decide)).mpr c14
                    obtain ⟨x15, ex15⟩ : ∃ y : Int32, y = y7_4 + 1 := ⟨_, rfl⟩
                    have tx15 := ti_add (a := y7_4.toInt) (b := 1) ex15 rfl (by decide) (by omega) (by omega)
                    refine lv_iinc (v := x15) (lv' := [(4, .int x15), (3, .int z6_0), (2, .int y4_2), (0, .ref (a 166)), (1, .int s1)]) hx hb dX7_tryFrom_108 hl (k := 0) rfl (by rw [ex15]; rfl) (by decide) rfl (fun ls hl => ?_)
                    refine lv_goto (tgt := 74) hx hb dX7_tryFrom_111 (by decide) ?_
                    exact ih7 i7 q7 c7 d7 x15 hI (fr_w hfi (by decide)) (fr_w hfc (by decide)) hPS hKJ hmo (show 0 ≤ x15.toInt ∧ x15.toInt ≤ 30 from by have h50 : x15.toInt = (y7_4.toInt + 1) := tx15; omega) (by have h50 : x15.toInt = (y7_4.toInt + 1) := tx15; omega) _ _ _ hP hD hS (lv_sub hl [0, 1, 2, 3, 4] rfl)
                  · have f14 := (ti_eq (a := r13.toInt) (b := 0) rfl (by decide)).mp c14
                    have hag2 : Im ((y4_2 : Int32).toInt = 0) (AG (c7 179) (c7 129) (i7 185) y7_4) := by rw [show c7 129 = c 129 from hfc 129 (by decide), show i7 185 = i 185 from hfi 185 (by decide)]; exact hr13_0 (by omega)
                    have hal2 : Im ((y4_2 : Int32).toInt = 11) (AL (c7 179) (i7 185)) := by rw [show i7 185 = i 185 from hfi 185 (by decide)]; exact hr13_1 (by omega)
                    refine lv_aload_n hx hb dX7_tryFrom_100 rfl (lv_at hl 3 rfl) ?_
                    refine lv_iload_n hx hb dX7_tryFrom_101 rfl (lv_at hl 4 rfl) ?_
                    refine lv_iload_n hx hb dX7_tryFrom_102 rfl (lv_at hl 2 rfl) ?_
                    refine lv_iload hx hb dX7_tryFrom_103 (lv_at hl 0 rfl) ?_
                    refine al_callv (va_runV (As := [.int s1, .int y4_2, .int y7_4]) (rest := []) ⟨hx, hb, hml, hown, hts⟩ (x_X7_tryWith l D H.size .null a t i7 q7 c7 d7 s1 y4_2 y7_4 hI (show 0 ≤ s1.toInt ∧ s1.toInt ≤ 299 from by omega) (show 0 ≤ y4_2.toInt ∧ y4_2.toInt ≤ 12 from by omega) (show y4_2.toInt = 0 → 0 ≤ y7_4.toInt ∧ y7_4.toInt ≤ 9 from by omega) (show 1 ≤ y4_2.toInt ∧ y4_2.toInt ≤ 10 → 0 ≤ y7_4.toInt ∧ y7_4.toInt ≤ 29 from by omega) hag2 hal2 (show 0 ≤ ((i7 185) : Int32).toInt ∧ ((i7 185) : Int32).toInt ≤ 29 from by omega) hKJ hPS) (cwV 3 hts gm_X7_tryFrom_X7_tryWith_134 rfl rfl rfl (by decide +kernel) ⟨Nat.le_of_ble_eq_true rfl, Nat.le_of_ble_eq_true rfl⟩) (yB_V hN (xZ_k hZ hS hA) (xZ_n hZ hD) hK hP hD (ci := 7) (q0 := 31) rfl rfl) rfl rfl hl.1 rfl (lv_room (Nat.le_of_ble_eq_true rfl)) dX7_tryFrom_105 ⟨Nat.le_of_ble_eq_true rfl, Nat.le_of_ble_eq_true rfl⟩) hS hA hP hD (fun u16 H locs hw16 hP hD hS => ?_)
                    obtain ⟨i16, q16, c16, d16⟩ := u16
                    have hw16 : True ∧ xInv i16 c16 ∧ (∀ k, k ∉ ([174, 175] : List Nat) → i16 k = i7 k) ∧ (∀ k, k ∉ ([167, 168, 169, 170, 171, 179] : List Nat) → c16 k = c7 k) ∧ (KJ (c16 167) (i16 174).toInt (i16 185)) ∧ ((i7 174).toInt ≤ (i16 174).toInt) ∧ (c16 179 = c7 179) := hw16
                    obtain ⟨hw16, hI, hei16, hec16, hxp16_0, hxp16_1, hxp16_2⟩ := hw16
                    have hxp16_0 : KJ (c16 167) (i16 174).toInt (i16 185) := hxp16_0
                    have hxp16_1 : (i7 174).toInt ≤ (i16 174).toInt := hxp16_1
                    have hxp16_2 : c16 179 = c7 179 := hxp16_2
                    have hfi : ∀ k, k ∉ ([174, 175, 183] : List Nat) → i16 k = i k := fr_z hfi hei16 (by decide) (by decide)
                    have hfc : ∀ k, k ∉ ([167, 168, 169, 170, 171, 179, 181, 182] : List Nat) → c16 k = c k := fr_z hfc hec16 (by decide) (by decide)
                    have hKJ : KJ (c16 167) ((i16 174) : Int32).toInt ((i16 185) : Int32) := hxp16_0
                    have hmo : (i 174).toInt ≤ (i16 174).toInt := Int.le_trans hmo hxp16_1
                    have hPS : PS (c16 179) ((i16 185) : Int32) := by show PS (c16 179) (i16 185); rw [hxp16_2, show i16 185 = i7 185 from hei16 185 (by decide)]; exact hPS
                    obtain ⟨x17, ex17⟩ : ∃ y : Int32, y = y7_4 + 1 := ⟨_, rfl⟩
                    have tx17 := ti_add (a := y7_4.toInt) (b := 1) ex17 rfl (by decide) (by omega) (by omega)
                    refine lv_iinc (v := x17) (lv' := [(4, .int x17), (3, .int z6_0), (2, .int y4_2), (0, .ref (a 166)), (1, .int s1)]) hx hb dX7_tryFrom_108 hl (k := 0) rfl (by rw [ex17]; rfl) (by decide) rfl (fun ls hl => ?_)
                    refine lv_goto (tgt := 74) hx hb dX7_tryFrom_111 (by decide) ?_
                    exact ih7 i16 q16 c16 d16 x17 hI (fr_w hfi (by decide)) (fr_w hfc (by decide)) hPS hKJ hmo (show 0 ≤ x17.toInt ∧ x17.toInt ≤ 30 from by have h50 : x17.toInt = (y7_4.toInt + 1) := tx17; omega) (by have h50 : x17.toInt = (y7_4.toInt + 1) := tx17; omega) _ _ _ hP hD hS (lv_sub hl [0, 1, 2, 3, 4] rfl)
          exact lp7 _ i4 q4 c4 d4 (0 : Int32) hI (fr_w hfi (by decide)) (fr_w hfc (by decide)) hPS hKJ hmo (show 0 ≤ (0 : Int32).toInt ∧ (0 : Int32).toInt ≤ 30 from by have h50 : (0 : Int32).toInt = 0 := (by decide); omega) (Nat.lt_succ_self _) _ _ _ hP hD hS (lv_sub hl [0, 1, 2, 3, 4] rfl)
        refine lv_if_ne (tgt := 52) hx hb dX7_tryFrom_44 (by decide) (fun c18 => ?_) (fun c18 => ?_)
        · have f18 := mt (ti_eq (a := y4_2.toInt) (b := 0) rfl (by decide)).mpr c18
          refine lv_iload_n hx hb dX7_tryFrom_52 rfl (lv_at hl 0 rfl) ?_
          have hPc := hP.sub (ws' := []) [] rfl
          have hKc := hK.sub (tys' := []) [] rfl
          refine ro_calli (va_runS (As := [.int y4_2]) (rest := []) ⟨hx, hb, hml, hown, hts⟩ (c_X0_hasX l D H.size y4_2) (va_cwS 1 hts gm_X7_tryFrom_X0_hasX_121 rfl rfl rfl (by decide +kernel) ⟨Nat.le_of_ble_eq_true rfl, Nat.le_of_ble_eq_true rfl⟩) (pA_S hKc hPc) rfl rfl hl.1 rfl (lv_room (Nat.le_of_ble_eq_true rfl)) dX7_tryFrom_53 ⟨Nat.le_of_ble_eq_true rfl, Nat.le_of_ble_eq_true rfl⟩) hS hA hP (fun r20 u20 H locs hw20 hP hS => ?_)
          have hw20 : r20 = if (y4_2.toInt < 11) then 1 else 0 := hw20
          refine lv_if_eq (tgt := 69) hx hb dX7_tryFrom_56 (by decide) (fun c21 => ?_) (fun c21 => ?_)
          · have f21 := fl_f hw20 c21
            refine lv_iconst (v := 1) hx hb dX7_tryFrom_69 (by decide) ?_
            exact jn6  (1 : Int32) (show 0 ≤ (1 : Int32).toInt ∧ (1 : Int32).toInt ≤ 30 ∧ (y4_2.toInt = 0 → (1 : Int32).toInt = 10) from by have h53 : (1 : Int32).toInt = 1 := (by decide); omega) _ _ _ hP hD hS (lv_sub hl [0, 1, 2] rfl)
          · have f21 := fl_t hw20 c21
            refine lv_aload_n hx hb dX7_tryFrom_59 rfl (lv_at hl 1 rfl) ?_
            refine xgS_S_world hx hb hts (fun _ h => List.mem_cons_of_mem _ (List.mem_append_left _ (List.mem_append_left _ (List.mem_append_left _ (List.mem_append_left _ (List.mem_append_left _ (List.mem_append_left _ (List.mem_append_left _ (List.mem_append_right _ h))))))))) hown hK hP (hts (.fieldLink RX7 30 "TalePlay$Seeker" "world" "LTalePlay$World;") (by decide +kernel)) dX7_tryFrom_60 ?_
            refine xgS_W_objects (v := (i4 111)) rfl hx hb hts (fun _ h => List.mem_cons_of_mem _ (List.mem_append_left _ (List.mem_append_left _ (List.mem_append_left _ (List.mem_append_right _ h))))) hown hK hP (hts (.fieldLink RX7 125 "TalePlay$World" "objects" "I") (by decide +kernel)) dX7_tryFrom_63 ?_
            have rb111_i4 : 0 ≤ (i4 111).toInt ∧ (i4 111).toInt ≤ 30 := hI.1 111
            have re111_i4 : (i4 111).toInt = (i 111).toInt := congrArg Int32.toInt (hfi 111 (by decide))
            refine lv_goto (tgt := 70) hx hb dX7_tryFrom_66 (by decide) ?_
            exact jn6  (i4 111) (show 0 ≤ (i4 111).toInt ∧ (i4 111).toInt ≤ 30 ∧ (y4_2.toInt = 0 → (i4 111).toInt = 10) from by omega) _ _ _ hP hD hS (lv_sub hl [0, 1, 2] rfl)
        · have f18 := (ti_eq (a := y4_2.toInt) (b := 0) rfl (by decide)).mp c18
          refine lv_bipush (v := 10) hx hb dX7_tryFrom_47 (by decide) ?_
          refine lv_goto (tgt := 70) hx hb dX7_tryFrom_49 (by decide) ?_
          exact jn6  (10 : Int32) (show 0 ≤ (10 : Int32).toInt ∧ (10 : Int32).toInt ≤ 30 ∧ (y4_2.toInt = 0 → (10 : Int32).toInt = 10) from by have h53 : (10 : Int32).toInt = 10 := (by decide); omega) _ _ _ hP hD hS (lv_sub hl [0, 1, 2] rfl)
  exact lp4 _ i3 q3 c3 d3 (0 : Int32) hI (fr_w hfi (by decide)) (fr_w hfc (by decide)) hPS hKJ hmo (show 0 ≤ (0 : Int32).toInt ∧ (0 : Int32).toInt ≤ 12 from by have h50 : (0 : Int32).toInt = 0 := (by decide); omega) (Nat.lt_succ_self _) _ _ _ hP hD hS (lv_sub hl [0, 1, 2] rfl)

def wm_X7_tellPlay : List Cond := .code yX7_tellPlay cX7_tellPlay 3 none :: (([.fieldLink RX7 83 "TalePlay$Seeker" "found" "I", .fieldLink RX7 61 "TalePlay$Seeker" "playLength" "I", .fieldLink RX7 27 "TalePlay$Seeker" "play" "[I", .fieldLink RX7 24 "TalePlay$Seeker" "deeds" "[I", .fieldLink RX7 21 "TalePlay$Seeker" "parents" "[I"] : List Cond) ++ wsX70)
set_option maxHeartbeats 4000000 in
set_option maxRecDepth 100000 in
theorem x_X7_tellPlay (l : Launch) (D : va_G) (sz : Nat) (sk : Value) (a : Nat → Nat) (t : Nat → ClassId) (i : Nat → Int32) (q : Int64) (c : Nat → Nat → Int32) (d : Nat → Nat → Int64) (hI : xInv i c) : Met l yX7_tellPlay wm_X7_tellPlay ({ frames := 0, cells := 0, slots := 0, locals := 0 }) (va_Pc [.ref (a 166)] (yB (a 186) D sz (xwS sk a t i q c d) (xtS t))) (va_Qv (fun (u : MS) => True ∧ xInv u.1 u.2.2.1 ∧ (∀ k, k ∉ ([173] : List Nat) → u.1 k = i k) ∧ (∀ k, k ∉ ([172] : List Nat) → u.2.2.1 k = c k)) (oC D (va_A (xwS sk a t i q c d) sz) (fun u : MS => xwS sk a t u.1 u.2.1 u.2.2.1 u.2.2.2) (fun _ => [])) (va_A (xwS sk a t i q c d) sz)) 0 0 (va_A (xwS sk a t i q c d) sz) := by
  refine Met.ofW (cc := cX7_tellPlay) (maxL := 3) (ret := none) (by decide) rfl ?_
  intro p e s m args below meth cd s₁ B hml hv
  obtain ⟨rfl, ⟨hsz, hP, hK, hD0⟩, hN, hZ, hBW⟩ := hv
  have hx := B.exec
  have hb := B.bytes
  have hr := B.returns
  have hts := atoms_spec (ws := wm_X7_tellPlay) B.pre
  have hown : s.vm.findClass RX7 = some m.cls := findClass_of_methodNamed B.named
  have hlocks := B.notSynchronized
  subst hsz
  have hD := hD0.self (sz := s.heap.size)
  have hZ := xZ_A hZ hP hBW
  generalize hAe : va_A (xwS sk a t i q c d) s.heap.size = A at hD hZ ⊢
  have hA : ∀ q : Nat, s.heap.size ≤ q → A q := fun q h => by rw [← hAe]; exact Or.inr h
  have hS : va_S A s.heap s.heap [] := va_S.rf
  have hfi : ∀ k, k ∉ ([] : List Nat) → i k = i k := fun _ _ => rfl
  have hfc : ∀ k, k ∉ ([] : List Nat) → c k = c k := fun _ _ => rfl
  have hl := lv_entry ([.ref (a 166)]) (n := 3) (Nat.le_of_ble_eq_true rfl)
  rw [lg_entry_eq]
  generalize (lg_sl ([.ref (a 166)]) ++ List.replicate (3 - (lg_sl ([.ref (a 166)])).length) Slot.unset).toArray = ls at hl ⊢
  have hl : lv_has ls 3 [(0, .ref (a 166))] := hl
  refine lv_aload_n hx hb dX7_tellPlay_0 rfl (lv_at hl 0 rfl) ?_
  refine xgS_S_found (v := (i 175)) rfl hx hb hts (fun _ h => List.mem_cons_of_mem _ (List.mem_append_right _ h)) hown hK hP (hts (.fieldLink RX7 83 "TalePlay$Seeker" "found" "I") (by decide +kernel)) dX7_tellPlay_1 ?_
  have rb175_i : (i 175).toInt = -9 ∨ (0 ≤ (i 175).toInt ∧ (i 175).toInt ≤ 299) := hI.1 175
  refine lv_bipush (v := (-9)) hx hb dX7_tellPlay_4 (by decide) ?_
  refine lv_icmp_ne (tgt := 16) hx hb dX7_tellPlay_6 (by decide) (fun c1 => ?_) (fun c1 => ?_)
  · have f1 := mt (ti_eq (a := (i 175).toInt) (b := (-9)) rfl (by decide)).mpr c1
    refine lv_aload_n hx hb dX7_tellPlay_16 rfl (lv_at hl 0 rfl) ?_
    refine lv_iconst (v := 0) hx hb dX7_tellPlay_17 (by decide) ?_
    refine xpS_S_playLength hx hb hts (fun _ h => List.mem_cons_of_mem _ (List.mem_append_right _ h)) hown hK hP hD hS (hts (.fieldLink RX7 61 "TalePlay$Seeker" "playLength" "I") (by decide +kernel)) rfl rfl dX7_tellPlay_18 (fun H locs hP hD hS => ?_)
    have hI := xInv_i hI (k := 173) (v := 0) (show (0 : Int32).toInt = -9 ∨ (0 ≤ (0 : Int32).toInt ∧ (0 : Int32).toInt ≤ 300) from by have h9 : (0 : Int32).toInt = 0 := (by decide); omega)
    have hfi : ∀ k, k ∉ ([173] : List Nat) → (upd i 173 0) k = i k := fr_iz hfi (by decide) (by decide)
    refine lv_aload_n hx hb dX7_tellPlay_21 rfl (lv_at hl 0 rfl) ?_
    refine xgS_S_found (i := (upd i 173 0)) (v := (i 175)) rfl hx hb hts (fun _ h => List.mem_cons_of_mem _ (List.mem_append_right _ h)) hown hK hP (hts (.fieldLink RX7 83 "TalePlay$Seeker" "found" "I") (by decide +kernel)) dX7_tellPlay_22 ?_
    refine lv_istore_n (lv' := [(1, .int (i 175)), (0, .ref (a 166))]) hx hb dX7_tellPlay_25 rfl hl (by decide) rfl (fun ls hl => ?_)
    have lp2 : ∀ (fu : Nat) (i2 : Nat → Int32) (q2 : Int64) (c2 : Nat → Nat → Int32) (d2 : Nat → Nat → Int64) (y2_1 : Int32), xInv i2 c2 → (∀ k, k ∉ ([173] : List Nat) → i2 k = i k) → (∀ k, k ∉ ([] : List Nat) → c2 k = c k) → (y2_1.toInt = -9 ∨ (0 ≤ y2_1.toInt ∧ y2_1.toInt ≤ 299)) → (0 ≤ ((i2 173) : Int32).toInt) → (300 - ((i2 173) : Int32).toInt).toNat < fu → ∀ (H : Heap) (locs : List Loc) (ls : Array Slot), va_P D vwCl (xwS sk a t i2 q2 c2 d2) H → va_D A (xwS sk a t i2 q2 c2 d2) → va_S A s.heap H locs → lv_has ls 3 [(1, .int y2_1), (0, .ref (a 166))] → W p l e (headSpec wm_X7_tellPlay ({ frames := 0, cells := 0, slots := 0, locals := 0 })).room s m ([.ref (a 166)] : List Value).toArray below meth cd H locs 0 0 (MQ below (va_Qv (fun (u : MS) => True ∧ xInv u.1 u.2.2.1 ∧ (∀ k, k ∉ ([173] : List Nat) → u.1 k = i k) ∧ (∀ k, k ∉ ([172] : List Nat) → u.2.2.1 k = c k)) (oC D A (fun u : MS => xwS sk a t u.1 u.2.1 u.2.2.1 u.2.2.2) (fun _ => [])) A) ([.ref (a 166)] : List Value).toArray s 0 0 A) (F0 m 26 ls []) := by
      intro fu
      induction fu with
      | zero => intro i2 q2 c2 d2 y2_1 hI hfi hfc hy2_1 hz2_0 hm; exact absurd hm (Nat.not_lt_zero _)
      | succ fu ih =>
        intro i2 q2 c2 d2 y2_1 hI hfi hfc hy2_1 hz2_0 hm H locs ls hP hD hS hl
        have ih2 := ih
        have hm2 := hm
        refine lv_iload_n hx hb dX7_tellPlay_26 rfl (lv_at hl 0 rfl) ?_
        have jn3 : ∀ (H : Heap) (locs : List Loc) (ls : Array Slot), va_P D vwCl (xwS sk a t i2 q2 c2 d2) H → va_D A (xwS sk a t i2 q2 c2 d2) → va_S A s.heap H locs → lv_has ls 3 [(1, .int y2_1), (0, .ref (a 166))] → W p l e (headSpec wm_X7_tellPlay ({ frames := 0, cells := 0, slots := 0, locals := 0 })).room s m ([.ref (a 166)] : List Value).toArray below meth cd H locs 0 0 (MQ below (va_Qv (fun (u : MS) => True ∧ xInv u.1 u.2.2.1 ∧ (∀ k, k ∉ ([173] : List Nat) → u.1 k = i k) ∧ (∀ k, k ∉ ([172] : List Nat) → u.2.2.1 k = c k)) (oC D A (fun u : MS => xwS sk a t u.1 u.2.1 u.2.2.1 u.2.2.2) (fun _ => [])) A) ([.ref (a 166)] : List Value).toArray s 0 0 A) (F0 m 60 ls []) := by
          intro H locs ls hP hD hS hl
          refine lv_aload_n hx hb dX7_tellPlay_60 rfl (lv_at hl 1 rfl) ?_
          refine xgS_S_found (v := (i2 175)) rfl hx hb hts (fun _ h => List.mem_cons_of_mem _ (List.mem_append_right _ h)) hown hK hP (hts (.fieldLink RX7 83 "TalePlay$Seeker" "found" "I") (by decide +kernel)) dX7_tellPlay_61 ?_
          have rb175_i2 : (i2 175).toInt = -9 ∨ (0 ≤ (i2 175).toInt ∧ (i2 175).toInt ≤ 299) := hI.1 175
          have re175_i2 : (i2 175).toInt = (i 175).toInt := congrArg Int32.toInt (hfi 175 (by decide))
          refine lv_istore_n (lv' := [(1, .int (i2 175)), (0, .ref (a 166))]) hx hb dX7_tellPlay_64 rfl hl (by decide) rfl (fun ls hl => ?_)
          refine lv_aload_n hx hb dX7_tellPlay_65 rfl (lv_at hl 1 rfl) ?_
          refine xgS_S_playLength (v := (i2 173)) rfl hx hb hts (fun _ h => List.mem_cons_of_mem _ (List.mem_append_right _ h)) hown hK hP (hts (.fieldLink RX7 61 "TalePlay$Seeker" "playLength" "I") (by decide +kernel)) dX7_tellPlay_66 ?_
          have rb173_i2 : (i2 173).toInt = -9 ∨ (0 ≤ (i2 173).toInt ∧ (i2 173).toInt ≤ 300) := hI.1 173
          refine lv_iconst (v := 1) hx hb dX7_tellPlay_69 (by decide) ?_
          refine lv_isub hx hb dX7_tellPlay_70 ?_
          refine lv_topi (fun x4 ex4 => ?_)
          have tx4 := ti_sub (a := (i2 173).toInt) (b := 1) ex4 rfl (by decide) (by omega) (by omega)
          refine lv_istore_n (lv' := [(2, .int x4), (1, .int (i2 175)), (0, .ref (a 166))]) hx hb dX7_tellPlay_71 rfl hl (by decide) rfl (fun ls hl => ?_)
          have lp5 : ∀ (fu : Nat) (i5 : Nat → Int32) (q5 : Int64) (c5 : Nat → Nat → Int32) (d5 : Nat → Nat → Int64) (y5_2 : Int32) (y5_1 : Int32), xInv i5 c5 → (∀ k, k ∉ ([173] : List Nat) → i5 k = i k) → (∀ k, k ∉ ([172] : List Nat) → c5 k = c k) → (-1 ≤ y5_2.toInt ∧ y5_2.toInt ≤ 299) → (y5_1.toInt = -9 ∨ (0 ≤ y5_1.toInt ∧ y5_1.toInt ≤ 299)) → (y5_2.toInt + 1).toNat < fu → ∀ (H : Heap) (locs : List Loc) (ls : Array Slot), va_P D vwCl (xwS sk a t i5 q5 c5 d5) H → va_D A (xwS sk a t i5 q5 c5 d5) → va_S A s.heap H locs → lv_has ls 3 [(2, .int y5_2), (1, .int y5_1), (0, .ref (a 166))] → W p l e (headSpec wm_X7_tellPlay ({ frames := 0, cells := 0, slots := 0, locals := 0 })).room s m ([.ref (a 166)] : List Value).toArray below meth cd H locs 0 0 (MQ below (va_Qv (fun (u : MS) => True ∧ xInv u.1 u.2.2.1 ∧ (∀ k, k ∉ ([173] : List Nat) → u.1 k = i k) ∧ (∀ k, k ∉ ([172] : List Nat) → u.2.2.1 k = c k)) (oC D A (fun u : MS => xwS sk a t u.1 u.2.1 u.2.2.1 u.2.2.2) (fun _ => [])) A) ([.ref (a 166)] : List Value).toArray s 0 0 A) (F0 m 72 ls []) := by
            intro fu
            induction fu with
            | zero => intro i5 q5 c5 d5 y5_2 y5_1 hI hfi hfc hy5_2 hy5_1 hm; exact absurd hm (Nat.not_lt_zero _)
            | succ fu ih =>
              intro i5 q5 c5 d5 y5_2 y5_1 hI hfi hfc hy5_2 hy5_1 hm H locs ls hP hD hS hl
              have ih5 := ih
              refine lv_iload_n hx hb dX7_tellPlay_72 rfl (lv_at hl 0 rfl) ?_
              refine lv_if_lt (tgt := 105) hx hb dX7_tellPlay_73 (by decide) (fun c6 => ?_) (fun c6 => ?_)
              · have f6 := (ti_lt (a := y5_2.toInt) (b := 0) rfl (by decide)).mp c6
                exact rw_vret (i5, q5, c5, d5) hx hb hr hlocks hS (hK.sub (tys' := []) [] rfl) hP hD dX7_tellPlay_105 ⟨trivial, hI, fr_w hfi (by decide), fr_w hfc (by decide)⟩
              · have f6 := mt (ti_lt (a := y5_2.toInt) (b := 0) rfl (by decide)).mpr c6
                refine lv_iload_n hx hb dX7_tellPlay_76 rfl (lv_at hl 1 rfl) ?_
                refine lv_if_le (tgt := 105) hx hb dX7_tellPlay_77 (by decide) (fun c7 => ?_) (fun c7 => ?_)
                · have f7 := (ti_le (a := y5_1.toInt) (b := 0) rfl (by decide)).mp c7
                  exact rw_vret (i5, q5, c5, d5) hx hb hr hlocks hS (hK.sub (tys' := []) [] rfl) hP hD dX7_tellPlay_105 ⟨trivial, hI, fr_w hfi (by decide), fr_w hfc (by decide)⟩
                · have f7 := mt (ti_le (a := y5_1.toInt) (b := 0) rfl (by decide)).mpr c7
                  refine lv_aload_n hx hb dX7_tellPlay_80 rfl (lv_at hl 2 rfl) ?_
                  refine xgS_S_play hx hb hts (fun _ h => List.mem_cons_of_mem _ (List.mem_append_right _ h)) hown hK hP (hts (.fieldLink RX7 27 "TalePlay$Seeker" "play" "[I") (by decide +kernel)) dX7_tellPlay_81 ?_
                  refine lv_iload_n hx hb dX7_tellPlay_84 rfl (lv_at hl 0 rfl) ?_
                  refine lv_aload_n hx hb dX7_tellPlay_85 rfl (lv_at hl 2 rfl) ?_
                  refine xgS_S_deeds hx hb hts (fun _ h => List.mem_cons_of_mem _ (List.mem_append_right _ h)) hown hK hP (hts (.fieldLink RX7 24 "TalePlay$Seeker" "deeds" "[I") (by decide +kernel)) dX7_tellPlay_86 ?_
                  refine lv_iload_n hx hb dX7_tellPlay_89 rfl (lv_at hl 1 rfl) ?_
                  refine xlS_171 hx hb hK hP (vp_in_iff.mpr (by have h9 : y5_1.toInt = y5_1.toInt := rfl; omega)) dX7_tellPlay_90 (fun x8 ex8 => ?_)
                  refine xsS_172 hx hb hK hP hD hS (vp_in_iff.mpr (by have h9 : y5_2.toInt = y5_2.toInt := rfl; omega)) dX7_tellPlay_91 (fun H locs hP hD hS => ?_)
                  have hI := xInv_c hI (k := 172) (j := (y5_2 : Int32).toNatClampNeg) (x := x8) (show True from trivial)
                  have hfc := fr_c hfc (k := 172) (j := (y5_2 : Int32).toNatClampNeg) (x := x8) (by decide)
                  refine lv_aload_n hx hb dX7_tellPlay_92 rfl (lv_at hl 2 rfl) ?_
                  refine xgS_S_parents hx hb hts (fun _ h => List.mem_cons_of_mem _ (List.mem_append_right _ h)) hown hK hP (hts (.fieldLink RX7 21 "TalePlay$Seeker" "parents" "[I") (by decide +kernel)) dX7_tellPlay_93 ?_
                  refine lv_iload_n hx hb dX7_tellPlay_96 rfl (lv_at hl 1 rfl) ?_
                  refine xlS_170 hx hb hK hP (vp_in_iff.mpr (by have h9 : y5_1.toInt = y5_1.toInt := rfl; omega)) dX7_tellPlay_97 (fun x9 ex9 => ?_)
                  have rx9 : x9.toInt = -9 ∨ (0 ≤ x9.toInt ∧ x9.toInt ≤ 299) := by rw [ex9]; exact hI.2 170 _
                  refine lv_istore_n (lv' := [(1, .int x9), (2, .int y5_2), (0, .ref (a 166))]) hx hb dX7_tellPlay_98 rfl hl (by decide) rfl (fun ls hl => ?_)
                  obtain ⟨x10, ex10⟩ : ∃ y : Int32, y = y5_2 + (-1) := ⟨_, rfl⟩
                  have tx10 := ti_add (a := y5_2.toInt) (b := (-1)) ex10 rfl (by decide) (by omega) (by omega)
                  refine lv_iinc (v := x10) (lv' := [(2, .int x10), (1, .int x9), (0, .ref (a 166))]) hx hb dX7_tellPlay_99 hl (k := 1) rfl (by rw [ex10]; rfl) (by decide) rfl (fun ls hl => ?_)
                  refine lv_goto (tgt := 72) hx hb dX7_tellPlay_102 (by decide) ?_
                  exact ih5 i5 q5 (updA c5 172 (y5_2 : Int32).toNatClampNeg x8) d5 x10 x9 hI (fr_w hfi (by decide)) (fr_w hfc (by decide)) (show -1 ≤ x10.toInt ∧ x10.toInt ≤ 299 from by have h50 : x10.toInt = (y5_2.toInt + (-1)) := tx10; omega) (show x9.toInt = -9 ∨ (0 ≤ x9.toInt ∧ x9.toInt ≤ 299) from by have h50 : x10.toInt = (y5_2.toInt + (-1)) := tx10; omega) (by have h50 : x10.toInt = (y5_2.toInt + (-1)) := tx10; omega) _ _ _ hP hD hS (lv_sub hl [0, 1, 2] rfl)
          exact lp5 _ i2 q2 c2 d2 x4 (i2 175) hI (fr_w hfi (by decide)) (fr_w hfc (by decide)) (show -1 ≤ x4.toInt ∧ x4.toInt ≤ 299 from by have h50 : x4.toInt = ((i2 173).toInt - 1) := tx4; omega) (show (i2 175).toInt = -9 ∨ (0 ≤ (i2 175).toInt ∧ (i2 175).toInt ≤ 299) from by have h50 : x4.toInt = ((i2 173).toInt - 1) := tx4; omega) (Nat.lt_succ_self _) _ _ _ hP hD hS (lv_sub hl [0, 1, 2] rfl)
        refine lv_if_le (tgt := 60) hx hb dX7_tellPlay_27 (by decide) (fun c11 => ?_) (fun c11 => ?_)
        · have f11 := (ti_le (a := y2_1.toInt) (b := 0) rfl (by decide)).mp c11
          exact jn3    _ _ _ hP hD hS (lv_sub hl [0, 1] rfl)
        · have f11 := mt (ti_le (a := y2_1.toInt) (b := 0) rfl (by decide)).mpr c11
          refine lv_aload_n hx hb dX7_tellPlay_30 rfl (lv_at hl 1 rfl) ?_
          refine xgS_S_playLength (v := (i2 173)) rfl hx hb hts (fun _ h => List.mem_cons_of_mem _ (List.mem_append_right _ h)) hown hK hP (hts (.fieldLink RX7 61 "TalePlay$Seeker" "playLength" "I") (by decide +kernel)) dX7_tellPlay_31 ?_
          have rb173_i2 : (i2 173).toInt = -9 ∨ (0 ≤ (i2 173).toInt ∧ (i2 173).toInt ≤ 300) := hI.1 173
          refine lv_sipush (v := 300) hx hb dX7_tellPlay_34 (by decide) ?_
          refine lv_icmp_ge (tgt := 60) hx hb dX7_tellPlay_37 (by decide) (fun c12 => ?_) (fun c12 => ?_)
          · have f12 := (ti_le (a := 300) (b := (i2 173).toInt) (by decide) rfl).mp c12
            exact jn3    _ _ _ hP hD hS (lv_sub hl [0, 1] rfl)
          · have f12 := mt (ti_le (a := 300) (b := (i2 173).toInt) (by decide) rfl).mpr c12
            refine lv_aload_n hx hb dX7_tellPlay_40 rfl (lv_at hl 1 rfl) ?_
            refine lv_dup hx hb dX7_tellPlay_41 rfl ?_
            refine xgS_S_playLength (v := (i2 173)) rfl hx hb hts (fun _ h => List.mem_cons_of_mem _ (List.mem_append_right _ h)) hown hK hP (hts (.fieldLink RX7 61 "TalePlay$Seeker" "playLength" "I") (by decide +kernel)) dX7_tellPlay_42 ?_
            refine lv_iconst (v := 1) hx hb dX7_tellPlay_45 (by decide) ?_
            refine lv_iadd hx hb dX7_tellPlay_46 ?_
            refine lv_topi (fun x13 ex13 => ?_)
            have tx13 := ti_add (a := (i2 173).toInt) (b := 1) ex13 rfl (by decide) (by omega) (by omega)
            refine xpS_S_playLength hx hb hts (fun _ h => List.mem_cons_of_mem _ (List.mem_append_right _ h)) hown hK hP hD hS (hts (.fieldLink RX7 61 "TalePlay$Seeker" "playLength" "I") (by decide +kernel)) rfl rfl dX7_tellPlay_47 (fun H locs hP hD hS => ?_)
            have hI := xInv_i hI (k := 173) (v := x13) (show (x13 : Int32).toInt = -9 ∨ (0 ≤ (x13 : Int32).toInt ∧ (x13 : Int32).toInt ≤ 300) from by have h9 : x13.toInt = ((i2 173).toInt + 1) := tx13; omega)
            have hfi := fr_i hfi (k := 173) (v := x13) (by decide)
            refine lv_aload_n hx hb dX7_tellPlay_50 rfl (lv_at hl 1 rfl) ?_
            refine xgS_S_parents hx hb hts (fun _ h => List.mem_cons_of_mem _ (List.mem_append_right _ h)) hown hK hP (hts (.fieldLink RX7 21 "TalePlay$Seeker" "parents" "[I") (by decide +kernel)) dX7_tellPlay_51 ?_
            refine lv_iload_n hx hb dX7_tellPlay_54 rfl (lv_at hl 0 rfl) ?_
            refine xlS_170 hx hb hK hP (vp_in_iff.mpr (by have h9 : y2_1.toInt = y2_1.toInt := rfl; omega)) dX7_tellPlay_55 (fun x14 ex14 => ?_)
            have rx14 : x14.toInt = -9 ∨ (0 ≤ x14.toInt ∧ x14.toInt ≤ 299) := by rw [ex14]; exact hI.2 170 _
            refine lv_istore_n (lv' := [(1, .int x14), (0, .ref (a 166))]) hx hb dX7_tellPlay_56 rfl hl (by decide) rfl (fun ls hl => ?_)
            refine lv_goto (tgt := 26) hx hb dX7_tellPlay_57 (by decide) ?_
            exact ih2 (upd i2 173 x13) q2 c2 d2 x14 hI (fr_w hfi (by decide)) (fr_w hfc (by decide)) (show x14.toInt = -9 ∨ (0 ≤ x14.toInt ∧ x14.toInt ≤ 299) from by have h60 : x13.toInt = ((i2 173).toInt + 1) := tx13; omega) (show 0 ≤ (x13 : Int32).toInt from by have h60 : x13.toInt = ((i2 173).toInt + 1) := tx13; omega) (by show (300 - (x13 : Int32).toInt).toNat < _; have h9 : x13.toInt = ((i2 173).toInt + 1) := tx13; omega) _ _ _ hP hD hS (lv_sub hl [0, 1] rfl)
    exact lp2 _ (upd i 173 0) q c d (i 175) hI (fr_w hfi (by decide)) (fr_w hfc (by decide)) (show (i 175).toInt = -9 ∨ (0 ≤ (i 175).toInt ∧ (i 175).toInt ≤ 299) from by have h60 : (0 : Int32).toInt = 0 := (by decide); omega) (show 0 ≤ (0 : Int32).toInt from by have h60 : (0 : Int32).toInt = 0 := (by decide); omega) (Nat.lt_succ_self _) _ _ _ hP hD hS (lv_sub hl [0, 1] rfl)
  · have f1 := (ti_eq (a := (i 175).toInt) (b := (-9)) rfl (by decide)).mp c1
    refine lv_aload_n hx hb dX7_tellPlay_9 rfl (lv_at hl 0 rfl) ?_
    refine lv_bipush (v := (-9)) hx hb dX7_tellPlay_10 (by decide) ?_
    refine xpS_S_playLength hx hb hts (fun _ h => List.mem_cons_of_mem _ (List.mem_append_right _ h)) hown hK hP hD hS (hts (.fieldLink RX7 61 "TalePlay$Seeker" "playLength" "I") (by decide +kernel)) rfl rfl dX7_tellPlay_12 (fun H locs hP hD hS => ?_)
    have hI := xInv_i hI (k := 173) (v := (-9)) (show ((-9) : Int32).toInt = -9 ∨ (0 ≤ ((-9) : Int32).toInt ∧ ((-9) : Int32).toInt ≤ 300) from by have h9 : ((-9) : Int32).toInt = -9 := (by decide); omega)
    have hfi : ∀ k, k ∉ ([173] : List Nat) → (upd i 173 (-9)) k = i k := fr_iz hfi (by decide) (by decide)
    exact rw_vret ((upd i 173 (-9)), q, c, d) hx hb hr hlocks hS (hK.sub (tys' := []) [] rfl) hP hD dX7_tellPlay_15 ⟨trivial, hI, fr_w hfi (by decide), fr_w hfc (by decide)⟩

def wm_X7_search : List Cond := .code yX7_search cX7_search 6 (some .int) :: (([.fieldLink RX7 77 "TalePlay$Seeker" "goalThing" "I", .fieldLink RX7 80 "TalePlay$Seeker" "goalHolder" "I", .fieldLink RX7 83 "TalePlay$Seeker" "found" "I", .fieldLink RX7 86 "TalePlay$Seeker" "states" "I", .fieldLink RX7 18 "TalePlay$Seeker" "slots" "[I", .methodLink RX7 89 yJ7_fill_53178, .static yJ7_fill_53178, .initialized RJ7, .code yJ7_fill_53178 cJ7_fill_53178 4 none, .methodLink RX7 95 yX7_markOfScene, .instanceMethod yX7_markOfScene, .selects RX7 yX7_markOfScene yX7_markOfScene, .initialized RX7, .code yX7_markOfScene cX7_markOfScene 3 (some .int), .fieldLink RX7 39 "TalePlay$Seeker" "scene" "LTalePlay$Scene;", .fieldLink RX7 65 "TalePlay$Scene" "cells" "[I", .methodLink RX7 154 yX7_weightOf, .static yX7_weightOf, .code yX7_weightOf cX7_weightOf 1 (some .int), .constant RX7 163 (-1640531535), .methodLink RX7 99 yX7_slotFor, .instanceMethod yX7_slotFor, .selects RX7 yX7_slotFor yX7_slotFor, .code yX7_slotFor cX7_slotFor 4 (some .int), .fieldLink RX7 15 "TalePlay$Seeker" "marks" "[I", .methodLink RX7 164 yX7_isScene, .instanceMethod yX7_isScene, .selects RX7 yX7_isScene yX7_isScene, .code yX7_isScene cX7_isScene 3 (some .boolean), .fieldLink RX7 30 "TalePlay$Seeker" "world" "LTalePlay$World;", .fieldLink RX7 125 "TalePlay$World" "objects" "I", .fieldLink RX7 9 "TalePlay$Seeker" "kept" "[I", .methodLink RX7 103 yX7_keep, .instanceMethod yX7_keep, .selects RX7 yX7_keep yX7_keep, .code yX7_keep cX7_keep 5 none, .methodLink RX7 68 arraycopyName, .native arraycopyName, .static arraycopyName, .initialized "java/lang/System", .fieldLink RX7 21 "TalePlay$Seeker" "parents" "[I", .fieldLink RX7 24 "TalePlay$Seeker" "deeds" "[I", .methodLink RX7 160 yX6_holderOf, .instanceMethod yX6_holderOf, .selects RX6 yX6_holderOf yX6_holderOf, .initialized RX6, .code yX6_holderOf cX6_holderOf 3 (some .int), .fieldLink RX6 9 "TalePlay$Scene" "cells" "[I", .methodLink RX7 115 yX7_tellPlay, .instanceMethod yX7_tellPlay, .selects RX7 yX7_tellPlay yX7_tellPlay, .code yX7_tellPlay cX7_tellPlay 3 none, .fieldLink RX7 61 "TalePlay$Seeker" "playLength" "I", .fieldLink RX7 27 "TalePlay$Seeker" "play" "[I", .methodLink RX7 107 yX7_isEnded, .instanceMethod yX7_isEnded, .selects RX7 yX7_isEnded yX7_isEnded, .code yX7_isEnded cX7_isEnded 1 (some .boolean), .methodLink RX7 111 yX7_tryFrom, .instanceMethod yX7_tryFrom, .selects RX7 yX7_tryFrom yX7_tryFrom, .code yX7_tryFrom cX7_tryFrom 5 none, .fieldLink RX7 48 "TalePlay$Seeker" "sight" "LTalePlay$Sight;", .fieldLink RX7 57 "TalePlay$Seeker" "acts" "LTalePlay$Acts;", .fieldLink RX7 74 "TalePlay$Acts" "player" "I", .methodLink RX7 118 yX8_look, .instanceMethod yX8_look, .selects RX8 yX8_look yX8_look, .initialized RX8, .code yX8_look cX8_look 6 none, .methodLink RX8 30 yX8_shellOf, .instanceMethod yX8_shellOf, .selects RX8 yX8_shellOf yX8_shellOf, .code yX8_shellOf cX8_shellOf 5 (some .int), .fieldLink RX8 26 "TalePlay$Sight" "scene" "LTalePlay$Scene;", .methodLink RX8 62 yX6_holderOf, .fieldLink RX8 18 "TalePlay$Sight" "world" "LTalePlay$World;", .methodLink RX8 34 yX10_sortOf, .instanceMethod yX10_sortOf, .selects RX10 yX10_sortOf yX10_sortOf, .initialized RX10, .code yX10_sortOf cX10_sortOf 2 (some .int), .fieldLink RX10 37 "TalePlay$World" "objects" "I", .fieldLink RX10 15 "TalePlay$World" "sorts" "[I", .fieldLink RX10 21 "TalePlay$World" "kindOf" "[I", .methodLink RX8 65 yX8_isCover, .instanceMethod yX8_isCover, .selects RX8 yX8_isCover yX8_isCover, .code yX8_isCover cX8_isCover 3 (some .boolean), .methodLink RX8 40 yX6_has, .instanceMethod yX6_has, .selects RX6 yX6_has yX6_has, .code yX6_has cX6_has 3 (some .boolean), .fieldLink RX8 46 "TalePlay$Sight" "bright" "Z", .fieldLink RX8 50 "TalePlay$World" "objects" "I", .methodLink RX8 58 yX6_lies, .instanceMethod yX6_lies, .selects RX6 yX6_lies yX6_lies, .code yX6_lies cX6_lies 4 (some .boolean), .fieldLink RX8 9 "TalePlay$Sight" "seen" "[Z", .fieldLink RX8 15 "TalePlay$Sight" "reached" "[Z", .methodLink RX8 54 yX8_isInView, .instanceMethod yX8_isInView, .selects RX8 yX8_isInView yX8_isInView, .code yX8_isInView cX8_isInView 6 (some .boolean), .fieldLink RX8 22 "TalePlay$Sight" "roads" "LTalePlay$Roads;", .methodLink RX8 69 yX5_isSide, .instanceMethod yX5_isSide, .selects RX5 yX5_isSide yX5_isSide, .initialized RX5, .code yX5_isSide cX5_isSide 3 (some .boolean), .fieldLink RX5 24 "TalePlay$Roads" "firstSides" "[I", .fieldLink RX5 27 "TalePlay$Roads" "secondSides" "[I", .methodLink RX7 130 yX0_reasonOfX, .instanceMethod yX0_reasonOfX, .selects RX0 yX0_reasonOfX yX0_reasonOfX, .initialized RX0, .code yX0_reasonOfX cX0_reasonOfX 3 (some .int), .methodLink RX0 42 yX0_reasonToGo, .instanceMethod yX0_reasonToGo, .selects RX0 yX0_reasonToGo yX0_reasonToGo, .code yX0_reasonToGo cX0_reasonToGo 4 (some .int), .methodLink RX0 91 yX0_isByRoom, .instanceMethod yX0_isByRoom, .selects RX0 yX0_isByRoom yX0_isByRoom, .code yX0_isByRoom cX0_isByRoom 1 (some .boolean), .fieldLink RX0 33 "TalePlay$Acts" "scene" "LTalePlay$Scene;", .fieldLink RX0 38 "TalePlay$Acts" "player" "I", .methodLink RX0 80 yX6_formOf, .instanceMethod yX6_formOf, .selects RX6 yX6_formOf yX6_formOf, .code yX6_formOf cX6_formOf 3 (some .int), .fieldLink RX0 9 "TalePlay$Acts" "world" "LTalePlay$World;", .methodLink RX0 83 yX6_holderOf, .methodLink RX0 86 yX10_sortOf, .fieldLink RX0 19 "TalePlay$Acts" "roads" "LTalePlay$Roads;", .fieldLink RX0 95 "TalePlay$Roads" "leads" "[I", .fieldLink RX0 101 "TalePlay$Roads" "doors" "[I", .methodLink RX0 104 yX6_has, .methodLink RX0 46 yX0_reasonToTake, .instanceMethod yX0_reasonToTake, .selects RX0 yX0_reasonToTake yX0_reasonToTake, .code yX0_reasonToTake cX0_reasonToTake 3 (some .int), .fieldLink RX0 34 "TalePlay$Acts" "sight" "LTalePlay$Sight;", .fieldLink RX0 108 "TalePlay$Sight" "seen" "[Z", .methodLink RX0 112 yX6_isUp, .instanceMethod yX6_isUp, .selects RX6 yX6_isUp yX6_isUp, .code yX6_isUp cX6_isUp 5 (some .boolean), .methodLink RX6 25 yX6_holderOf, .methodLink RX0 49 yX0_isHeld, .instanceMethod yX0_isHeld, .selects RX0 yX0_isHeld yX0_isHeld, .code yX0_isHeld cX0_isHeld 2 (some .boolean), .methodLink RX0 74 yX6_lies, .methodLink RX0 115 yX10_isGoods, .instanceMethod yX10_isGoods, .selects RX10 yX10_isGoods yX10_isGoods, .code yX10_isGoods cX10_isGoods 2 (some .boolean), .methodLink RX10 44 yX10_isMovable, .instanceMethod yX10_isMovable, .selects RX10 yX10_isMovable yX10_isMovable, .code yX10_isMovable cX10_isMovable 3 (some .boolean), .methodLink RX10 40 yX10_sortOf, .fieldLink RX0 118 "TalePlay$Sight" "reached" "[Z", .methodLink RX0 121 yX0_isAnothers, .instanceMethod yX0_isAnothers, .selects RX0 yX0_isAnothers yX0_isAnothers, .code yX0_isAnothers cX0_isAnothers 4 (some .boolean), .fieldLink RX0 23 "TalePlay$Acts" "bulks" "LTalePlay$Bulks;", .code yX2_weighBy cX2_weighBy 6 (some .int), .fieldLink RX2 15 "TalePlay$Bulks" "world" "LTalePlay$World;", .methodLink RX2 42 yX10_sortOf, .methodLink RX2 45 yX2_noteBodies, .instanceMethod yX2_noteBodies, .selects RX2 yX2_noteBodies yX2_noteBodies, .initialized RX2, .code yX2_noteBodies cX2_noteBodies 2 none, .fieldLink RX2 60 "TalePlay$Bulks" "BODIES" "[I", .methodLink RX2 63 yX2_note, .instanceMethod yX2_note, .selects RX2 yX2_note yX2_note, .code yX2_note cX2_note 2 none, .fieldLink RX2 27 "TalePlay$Bulks" "tracing" "Z", .fieldLink RX2 49 "TalePlay$World" "sizeOf" "[I", .methodLink RX2 52 yX2_weighThose, .instanceMethod yX2_weighThose, .selects RX2 yX2_weighThose yX2_weighThose, .code yX2_weighThose cX2_weighThose 7 (some .int), .fieldLink RX2 31 "TalePlay$World" "objects" "I", .methodLink RX2 56 yX6_lies, .methodLink RX2 23 yX2_weighBy, .instanceMethod yX2_weighBy, .selects RX2 yX2_weighBy yX2_weighBy, .methodLink RX0 53 yX0_reasonOfShutter, .instanceMethod yX0_reasonOfShutter, .selects RX0 yX0_reasonOfShutter yX0_reasonOfShutter, .code yX0_reasonOfShutter cX0_reasonOfShutter 4 (some .int), .methodLink RX0 137 yX10_isShutter, .instanceMethod yX10_isShutter, .selects RX10 yX10_isShutter yX10_isShutter, .code yX10_isShutter cX10_isShutter 3 (some .boolean), .methodLink RX0 140 yX0_reasonOfLeaf, .static yX0_reasonOfLeaf, .code yX0_reasonOfLeaf cX0_reasonOfLeaf 3 (some .int), .methodLink RX0 57 yX0_reasonToWear, .instanceMethod yX0_reasonToWear, .selects RX0 yX0_reasonToWear yX0_reasonToWear, .code yX0_reasonToWear cX0_reasonToWear 2 (some .int), .methodLink RX0 60 yX0_reasonToEnter, .instanceMethod yX0_reasonToEnter, .selects RX0 yX0_reasonToEnter yX0_reasonToEnter, .code yX0_reasonToEnter cX0_reasonToEnter 3 (some .int), .methodLink RX0 63 yX0_reasonToLeave, .instanceMethod yX0_reasonToLeave, .selects RX0 yX0_reasonToLeave yX0_reasonToLeave, .code yX0_reasonToLeave cX0_reasonToLeave 3 (some .int), .methodLink RX7 134 yX7_tryWith, .instanceMethod yX7_tryWith, .selects RX7 yX7_tryWith yX7_tryWith, .code yX7_tryWith cX7_tryWith 6 none, .methodLink RX7 138 yX0_hasY, .static yX0_hasY, .code yX0_hasY cX0_hasY 1 (some .boolean), .methodLink RX7 141 yX0_reasonOfY, .instanceMethod yX0_reasonOfY, .selects RX0 yX0_reasonOfY yX0_reasonOfY, .code yX0_reasonOfY cX0_reasonOfY 4 (some .int), .methodLink RX0 67 yX0_reasonToPut, .instanceMethod yX0_reasonToPut, .selects RX0 yX0_reasonToPut yX0_reasonToPut, .code yX0_reasonToPut cX0_reasonToPut 4 (some .int), .methodLink RX0 134 yX6_countOf, .instanceMethod yX6_countOf, .selects RX6 yX6_countOf yX6_countOf, .code yX6_countOf cX6_countOf 5 (some .int), .fieldLink RX6 15 "TalePlay$Scene" "world" "LTalePlay$World;", .fieldLink RX6 34 "TalePlay$World" "objects" "I", .methodLink RX6 38 yX6_lies, .methodLink RX0 71 yX0_reasonOfKey, .instanceMethod yX0_reasonOfKey, .selects RX0 yX0_reasonOfKey yX0_reasonOfKey, .code yX0_reasonOfKey cX0_reasonOfKey 3 (some .int), .fieldLink RX0 15 "TalePlay$Acts" "book" "LTalePlay$Book;", .methodLink RX0 144 yX1_keyOf, .instanceMethod yX1_keyOf, .selects RX1 yX1_keyOf yX1_keyOf, .initialized RX1, .code yX1_keyOf cX1_keyOf 3 (some .int), .fieldLink RX1 37 "TalePlay$Book" "keyBy" "[I", .fieldLink RX1 15 "TalePlay$Book" "as" "[I", .methodLink RX7 145 yX7_step, .instanceMethod yX7_step, .selects RX7 yX7_step yX7_step, .code yX7_step cX7_step 10 none, .methodLink RX7 148 yX0_subjectOf, .instanceMethod yX0_subjectOf, .selects RX0 yX0_subjectOf yX0_subjectOf, .code yX0_subjectOf cX0_subjectOf 3 (some .int), .methodLink RX7 151 yX0_outcomeOf, .instanceMethod yX0_outcomeOf, .selects RX0 yX0_outcomeOf yX0_outcomeOf, .code yX0_outcomeOf cX0_outcomeOf 5 (some .int), .fieldLink RX0 149 "TalePlay$Scene" "cells" "[I", .methodLink RX0 152 yX0_subjectOf, .methodLink RX0 155 yX6_placed, .static yX6_placed, .code yX6_placed cX6_placed 3 (some .int), .methodLink RX0 158 yX6_flagged, .static yX6_flagged, .code yX6_flagged cX6_flagged 4 (some .int), .methodLink RX0 162 yX0_placedAs, .instanceMethod yX0_placedAs, .selects RX0 yX0_placedAs yX0_placedAs, .code yX0_placedAs cX0_placedAs 3 (some .int), .code yX11_deedOf cX11_deedOf 3 (some .int), .initialized RX11, .static yX11_deedOf, .methodLink RX7 121 yX0_hasX, .static yX0_hasX, .code yX0_hasX cX0_hasX 1 (some .boolean)] : List Cond) ++ wsX70 ++ wsX60 ++ wsX100 ++ wsX00 ++ wsX80 ++ wsX50 ++ wsX20 ++ wsX10)
set_option maxRecDepth 20000 in
theorem gm_X7_search_J7_fill_53178_89 : GoodIn wm_X7_search (va_wsS RX7 89 yJ7_fill_53178 wm_J7_fill_53178) := goodIn_app (goodIn_of _ (by decide +kernel)) (goodIn_r _ [9] rfl (by decide +kernel))
set_option maxRecDepth 20000 in
theorem gm_X7_search_X7_markOfScene_95 : GoodIn wm_X7_search (wsV RX7 95 RX7 yX7_markOfScene wm_X7_markOfScene) := goodIn_app (goodIn_of _ (by decide +kernel)) (goodIn_r _ [14, 15, 16, 17, 18, 13, 19, 20, 282, 283, 284, 285, 286, 287, 288, 289, 290, 291, 292, 293, 294, 295, 296, 297, 298] rfl (by decide +kernel))
set_option maxRecDepth 20000 in
theorem gm_X7_search_X7_slotFor_99 : GoodIn wm_X7_search (wsV RX7 99 RX7 yX7_slotFor wm_X7_slotFor) := goodIn_app (goodIn_of _ (by decide +kernel)) (goodIn_r _ [24, 20, 5, 25, 26, 27, 28, 13, 29, 30, 31, 32, 15, 16, 282, 283, 284, 285, 286, 287, 288, 289, 290, 291, 292, 293, 294, 295, 296, 299, 300, 301, 302, 303, 304, 305, 297, 298] rfl (by decide +kernel))
set_option maxRecDepth 20000 in
theorem gm_X7_search_X7_keep_103 : GoodIn wm_X7_search (wsV RX7 103 RX7 yX7_keep wm_X7_keep) := goodIn_app (goodIn_of _ (by decide +kernel)) (goodIn_r _ [36, 15, 16, 32, 4, 37, 38, 39, 40, 25, 41, 42, 5, 1, 43, 44, 45, 46, 47, 48, 2, 3, 282, 283, 284, 285, 286, 287, 288, 289, 290, 291, 292, 293, 294, 295, 296, 297, 298] rfl (by decide +kernel))
set_option maxRecDepth 20000 in
theorem gm_X7_search_X7_tellPlay_115 : GoodIn wm_X7_search (wsV RX7 115 RX7 yX7_tellPlay wm_X7_tellPlay) := goodIn_app (goodIn_of _ (by decide +kernel)) (goodIn_r _ [52, 3, 53, 54, 42, 41, 282, 283, 284, 285, 286, 287, 288, 289, 290, 291, 292, 293, 294, 295, 296] rfl (by decide +kernel))
set_option maxRecDepth 20000 in
theorem gm_X7_search_X7_isEnded_107 : GoodIn wm_X7_search (wsV RX7 107 RX7 yX7_isEnded wm_X7_isEnded) := goodIn_app (goodIn_of _ (by decide +kernel)) (goodIn_r _ [58, 3, 4, 282, 283, 284, 285, 286, 287, 288, 289, 290, 291, 292, 293, 294, 295, 296] rfl (by decide +kernel))
set_option maxRecDepth 20000 in
theorem gm_X7_search_X7_tryFrom_111 : GoodIn wm_X7_search (wsV RX7 111 RX7 yX7_tryFrom wm_X7_tryFrom) := goodIn_app (goodIn_of _ (by decide +kernel)) (goodIn_r _ [62, 32, 15, 16, 37, 38, 39, 40, 63, 64, 65, 66, 67, 68, 69, 70, 71, 72, 73, 74, 75, 76, 44, 45, 46, 47, 48, 77, 78, 79, 80, 81, 82, 83, 84, 85, 86, 87, 88, 89, 90, 91, 92, 93, 94, 95, 96, 97, 98, 99, 100, 101, 102, 103, 104, 105, 106, 107, 108, 109, 110, 111, 112, 113, 55, 56, 57, 13, 58, 3, 4, 114, 115, 116, 117, 118, 119, 120, 121, 122, 123, 124, 125, 126, 127, 128, 129, 130, 131, 132, 133, 134, 135, 136, 137, 138, 139, 140, 141, 142, 143, 144, 145, 146, 147, 148, 149, 150, 151, 152, 153, 154, 155, 156, 157, 158, 159, 160, 161, 162, 163, 164, 165, 166, 167, 168, 169, 170, 171, 172, 173, 174, 175, 176, 177, 178, 179, 180, 181, 182, 183, 184, 185, 186, 187, 188, 189, 190, 191, 192, 193, 194, 195, 196, 197, 198, 199, 200, 201, 202, 203, 204, 205, 206, 207, 208, 209, 210, 211, 212, 213, 214, 215, 216, 217, 218, 219, 220, 221, 222, 223, 224, 225, 226, 227, 228, 229, 230, 231, 232, 233, 234, 235, 236, 237, 238, 239, 240, 241, 242, 243, 244, 245, 246, 247, 248, 249, 250, 251, 252, 253, 254, 255, 256, 257, 258, 259, 260, 261, 262, 263, 264, 265, 266, 267, 268, 269, 270, 271, 272, 273, 274, 275, 25, 17, 18, 19, 20, 21, 22, 23, 24, 5, 26, 27, 28, 29, 30, 31, 276, 277, 278, 33, 34, 35, 36, 41, 42, 1, 43, 2, 279, 280, 281, 282, 283, 284, 285, 286, 287, 288, 289, 290, 291, 292, 293, 294, 295, 296, 297, 298, 306, 307, 308, 309, 310, 311, 312, 313, 314, 315, 316, 317, 318, 299, 300, 301, 302, 303, 304, 305, 319, 320, 321, 322, 323, 324, 325, 326, 327, 328, 329, 330, 331, 332, 333, 334, 335, 336, 337, 338, 339, 340, 341, 342, 343, 344, 345, 346, 347, 348] rfl (by decide +kernel))
set_option maxHeartbeats 4000000 in
set_option maxRecDepth 100000 in
theorem x_X7_search (l : Launch) (D : va_G) (sz : Nat) (sk : Value) (a : Nat → Nat) (t : Nat → ClassId) (i : Nat → Int32) (q : Int64) (c : Nat → Nat → Int32) (d : Nat → Nat → Int64) (w1 : Int32) (w2 : Int32) (b1 : Int32) (hI : xInv i c) (hw1 : 0 ≤ w1.toInt ∧ w1.toInt ≤ 29) (hw2 : 0 ≤ w2.toInt ∧ w2.toInt ≤ 29) (hb1 : 0 ≤ b1.toInt ∧ b1.toInt ≤ 300) (hsp : 0 ≤ (i 185).toInt ∧ (i 185).toInt ≤ 29) (htr : (i 141).toInt = 0) (hPS : PS (c 179) (i 185)) : Met l yX7_search wm_X7_search ({ frames := 72, cells := 0, slots := 0, locals := 1874 }) (va_Pc [.ref (a 166), .int w1, .int w2, .int b1] (yB (a 186) D sz (xwS sk a t i q c d) (xtS t))) (va_Qi (fun (r : Int32) (u : MS) => True ∧ xInv u.1 u.2.2.1 ∧ (∀ k, k ∉ ([173, 174, 175, 176, 177, 183] : List Nat) → u.1 k = i k) ∧ (∀ k, k ∉ ([167, 168, 169, 170, 171, 172, 179, 181, 182] : List Nat) → u.2.2.1 k = c k)) (oC D (va_A (xwS sk a t i q c d) sz) (fun u : MS => xwS sk a t u.1 u.2.1 u.2.2.1 u.2.2.2) (fun _ => [])) (va_A (xwS sk a t i q c d) sz)) 0 0 (va_A (xwS sk a t i q c d) sz) := by
  refine Met.ofW (cc := cX7_search) (maxL := 6) (ret := (some .int)) (by decide) rfl ?_
  intro p e s m args below meth cd s₁ B hml hv
  obtain ⟨rfl, ⟨hsz, hP, hK, hD0⟩, hN, hZ, hBW⟩ := hv
  have hx := B.exec
  have hb := B.bytes
  have hr := B.returns
  have hts := atoms_spec (ws := wm_X7_search) B.pre
  have hown : s.vm.findClass RX7 = some m.cls := findClass_of_methodNamed B.named
  have hlocks := B.notSynchronized
  subst hsz
  have hD := hD0.self (sz := s.heap.size)
  have hZ := xZ_A hZ hP hBW
  generalize hAe : va_A (xwS sk a t i q c d) s.heap.size = A at hD hZ ⊢
  have hA : ∀ q : Nat, s.heap.size ≤ q → A q := fun q h => by rw [← hAe]; exact Or.inr h
  have hS : va_S A s.heap s.heap [] := va_S.rf
  have hfi : ∀ k, k ∉ ([] : List Nat) → i k = i k := fun _ _ => rfl
  have hfc : ∀ k, k ∉ ([] : List Nat) → c k = c k := fun _ _ => rfl
  have hl := lv_entry ([.ref (a 166), .int w1, .int w2, .int b1]) (n := 6) (Nat.le_of_ble_eq_true rfl)
  rw [lg_entry_eq]
  generalize (lg_sl ([.ref (a 166), .int w1, .int w2, .int b1]) ++ List.replicate (6 - (lg_sl ([.ref (a 166), .int w1, .int w2, .int b1])).length) Slot.unset).toArray = ls at hl ⊢
  have hl : lv_has ls 6 [(0, .ref (a 166)), (1, .int w1), (2, .int w2), (3, .int b1)] := hl
  refine lv_aload_n hx hb dX7_search_0 rfl (lv_at hl 0 rfl) ?_
  refine lv_iload_n hx hb dX7_search_1 rfl (lv_at hl 1 rfl) ?_
  refine xpS_S_goalThing hx hb hts (fun _ h => List.mem_cons_of_mem _ (List.mem_append_left _ (List.mem_append_left _ (List.mem_append_left _ (List.mem_append_left _ (List.mem_append_left _ (List.mem_append_left _ (List.mem_append_left _ (List.mem_append_right _ h))))))))) hown hK hP hD hS (hts (.fieldLink RX7 77 "TalePlay$Seeker" "goalThing" "I") (by decide +kernel)) rfl rfl dX7_search_2 (fun H locs hP hD hS => ?_)
  have hI := xInv_i hI (k := 176) (v := w1) (show 0 ≤ (w1 : Int32).toInt ∧ (w1 : Int32).toInt ≤ 29 from by omega)
  have hfi : ∀ k, k ∉ ([176] : List Nat) → (upd i 176 w1) k = i k := fr_iz hfi (by decide) (by decide)
  refine lv_aload_n hx hb dX7_search_5 rfl (lv_at hl 0 rfl) ?_
  refine lv_iload_n hx hb dX7_search_6 rfl (lv_at hl 2 rfl) ?_
  refine xpS_S_goalHolder hx hb hts (fun _ h => List.mem_cons_of_mem _ (List.mem_append_left _ (List.mem_append_left _ (List.mem_append_left _ (List.mem_append_left _ (List.mem_append_left _ (List.mem_append_left _ (List.mem_append_left _ (List.mem_append_right _ h))))))))) hown hK hP hD hS (hts (.fieldLink RX7 80 "TalePlay$Seeker" "goalHolder" "I") (by decide +kernel)) rfl rfl dX7_search_7 (fun H locs hP hD hS => ?_)
  have hI := xInv_i hI (k := 177) (v := w2) (show 0 ≤ (w2 : Int32).toInt ∧ (w2 : Int32).toInt ≤ 29 from by omega)
  have hfi : ∀ k, k ∉ ([176, 177] : List Nat) → (upd (upd i 176 w1) 177 w2) k = i k := fr_iz hfi (by decide) (by decide)
  refine lv_aload_n hx hb dX7_search_10 rfl (lv_at hl 0 rfl) ?_
  refine lv_bipush (v := (-9)) hx hb dX7_search_11 (by decide) ?_
  refine xpS_S_found hx hb hts (fun _ h => List.mem_cons_of_mem _ (List.mem_append_left _ (List.mem_append_left _ (List.mem_append_left _ (List.mem_append_left _ (List.mem_append_left _ (List.mem_append_left _ (List.mem_append_left _ (List.mem_append_right _ h))))))))) hown hK hP hD hS (hts (.fieldLink RX7 83 "TalePlay$Seeker" "found" "I") (by decide +kernel)) rfl rfl dX7_search_13 (fun H locs hP hD hS => ?_)
  have hI := xInv_i hI (k := 175) (v := (-9)) (show ((-9) : Int32).toInt = -9 ∨ (0 ≤ ((-9) : Int32).toInt ∧ ((-9) : Int32).toInt ≤ 299) from by have h9 : ((-9) : Int32).toInt = -9 := (by decide); omega)
  have hfi : ∀ k, k ∉ ([175, 176, 177] : List Nat) → (upd (upd (upd i 176 w1) 177 w2) 175 (-9)) k = i k := fr_iz hfi (by decide) (by decide)
  refine lv_aload_n hx hb dX7_search_16 rfl (lv_at hl 0 rfl) ?_
  refine lv_iconst (v := 0) hx hb dX7_search_17 (by decide) ?_
  refine xpS_S_states hx hb hts (fun _ h => List.mem_cons_of_mem _ (List.mem_append_left _ (List.mem_append_left _ (List.mem_append_left _ (List.mem_append_left _ (List.mem_append_left _ (List.mem_append_left _ (List.mem_append_left _ (List.mem_append_right _ h))))))))) hown hK hP hD hS (hts (.fieldLink RX7 86 "TalePlay$Seeker" "states" "I") (by decide +kernel)) rfl rfl dX7_search_18 (fun H locs hP hD hS => ?_)
  have hI := xInv_i hI (k := 174) (v := 0) (show 0 ≤ (0 : Int32).toInt ∧ (0 : Int32).toInt ≤ 300 from by have h9 : (0 : Int32).toInt = 0 := (by decide); omega)
  have hfi : ∀ k, k ∉ ([174, 175, 176, 177] : List Nat) → (upd (upd (upd (upd i 176 w1) 177 w2) 175 (-9)) 174 0) k = i k := fr_iz hfi (by decide) (by decide)
  refine lv_aload_n hx hb dX7_search_21 rfl (lv_at hl 0 rfl) ?_
  refine xgS_S_slots hx hb hts (fun _ h => List.mem_cons_of_mem _ (List.mem_append_left _ (List.mem_append_left _ (List.mem_append_left _ (List.mem_append_left _ (List.mem_append_left _ (List.mem_append_left _ (List.mem_append_left _ (List.mem_append_right _ h))))))))) hown hK hP (hts (.fieldLink RX7 18 "TalePlay$Seeker" "slots" "[I") (by decide +kernel)) dX7_search_22 ?_
  refine lv_bipush (v := (-9)) hx hb dX7_search_25 (by decide) ?_
  have hPc := hP.sub (ws' := [(a 169, .inl (t 169, 1024, .inl (c 169)))]) [34] rfl
  have hKc := hK.sub (tys' := [(t 169, .int)]) [28] rfl
  have hDc := hD.sub (ws' := [(a 169, .inl (t 169, 1024, .inl (c 169)))]) [34] (by decide) rfl
  refine rw_callv (wr := ((xwS sk a t (upd (upd (upd (upd i 176 w1) 177 w2) 175 (-9)) 174 0) q c d)).eraseIdx 34) (va_runS (As := [.ref (a 169), .int (-9)]) (rest := []) ⟨hx, hb, hml, hown, hts⟩ (c_fill2 l D H.size (a 169) (t 169) 1024 (c 169) ((-9) : Int32) (by decide)) (va_cwS 2 hts gm_X7_search_J7_fill_53178_89 rfl rfl rfl (by decide +kernel) ⟨Nat.le_of_ble_eq_true rfl, Nat.le_of_ble_eq_true rfl⟩) (pB_S hKc hPc hDc) rfl rfl hl.1 rfl (lv_room (Nat.le_of_ble_eq_true rfl)) dX7_search_27 ⟨Nat.le_of_ble_eq_true rfl, Nat.le_of_ble_eq_true rfl⟩) hS hA hK hP hD [34] [0, 1, 2, 3, 4, 5, 6, 7, 8, 9, 10, 11, 12, 13, 14, 15, 16, 17, 18, 19, 20, 21, 22, 23, 24, 25, 26, 27, 28, 29, 30, 31, 32, 33, 35, 36, 37, 38, 39, 40, 41, 42, 43] rfl rfl (by decide) (by decide) (fun u1 H locs hw1 hK2 hP hD hS => ?_)
  have hP : va_P D vwCl (xwS sk a t (upd (upd (upd (upd i 176 w1) 177 w2) 175 (-9)) 174 0) q (updF c 169 (fun _ => ((-9) : Int32))) d) H := hP.sub [0, 1, 2, 3, 4, 5, 6, 7, 8, 9, 10, 11, 12, 13, 14, 15, 16, 17, 18, 19, 20, 21, 22, 23, 24, 25, 26, 27, 28, 29, 30, 31, 32, 33, 43, 34, 35, 36, 37, 38, 39, 40, 41, 42] rfl
  have hD : va_D A (xwS sk a t (upd (upd (upd (upd i 176 w1) 177 w2) 175 (-9)) 174 0) q (updF c 169 (fun _ => ((-9) : Int32))) d) := hD.sub [0, 1, 2, 3, 4, 5, 6, 7, 8, 9, 10, 11, 12, 13, 14, 15, 16, 17, 18, 19, 20, 21, 22, 23, 24, 25, 26, 27, 28, 29, 30, 31, 32, 33, 43, 34, 35, 36, 37, 38, 39, 40, 41, 42] (by decide) rfl
  have hI := xInv_f hI (k := 169) (f := (fun _ => ((-9) : Int32))) (fun j => show ((-9) : Int32).toInt = -9 ∨ (0 ≤ ((-9) : Int32).toInt ∧ ((-9) : Int32).toInt ≤ 299) from by have h9 : ((-9) : Int32).toInt = -9 := (by decide); omega)
  have hfc : ∀ k, k ∉ ([169] : List Nat) → (updF c 169 (fun _ => ((-9) : Int32))) k = c k := fr_f hfc (by decide) (by decide)
  refine lv_aload_n hx hb dX7_search_30 rfl (lv_at hl 0 rfl) ?_
  refine ro_calli (va_runV (As := []) (rest := []) ⟨hx, hb, hml, hown, hts⟩ (x_X7_markOfScene l D H.size .null a t (upd (upd (upd (upd i 176 w1) 177 w2) 175 (-9)) 174 0) q (updF c 169 (fun _ => ((-9) : Int32))) d  hI ) (cwV 0 hts gm_X7_search_X7_markOfScene_95 rfl rfl rfl (by decide +kernel) ⟨Nat.le_of_ble_eq_true rfl, Nat.le_of_ble_eq_true rfl⟩) (yA_V hN (xZ_k hZ hS hA) hK hP (ci := 7) (q0 := 31) rfl rfl) rfl rfl hl.1 rfl (lv_room (Nat.le_of_ble_eq_true rfl)) dX7_search_31 ⟨Nat.le_of_ble_eq_true rfl, Nat.le_of_ble_eq_true rfl⟩) hS hA hP (fun r2 u2 H locs hw2 hP hS => ?_)
  refine lv_istore (lv' := [(4, .int r2), (0, .ref (a 166)), (1, .int w1), (2, .int w2), (3, .int b1)]) hx hb dX7_search_34 hl (by decide) rfl (fun ls hl => ?_)
  have hPS : PS ((updF c 169 (fun _ => ((-9) : Int32))) 179) ((i 185) : Int32) := hPS
  have hKJ : KJ ((updF c 169 (fun _ => ((-9) : Int32))) 167) (0 : Int32).toInt ((i 185) : Int32) := KJ_0 (by decide)
  refine lv_aload_n hx hb dX7_search_36 rfl (lv_at hl 1 rfl) ?_
  refine lv_iload hx hb dX7_search_37 (lv_at hl 0 rfl) ?_
  refine lv_aload_n hx hb dX7_search_39 rfl (lv_at hl 1 rfl) ?_
  refine lv_iload hx hb dX7_search_40 (lv_at hl 0 rfl) ?_
  refine ro_calli (va_runV (As := [.int r2]) (rest := [.int r2, .ref (a 166)]) ⟨hx, hb, hml, hown, hts⟩ (x_X7_slotFor l D H.size .null a t (upd (upd (upd (upd i 176 w1) 177 w2) 175 (-9)) 174 0) q (updF c 169 (fun _ => ((-9) : Int32))) d r2 hI ) (cwV 1 hts gm_X7_search_X7_slotFor_99 rfl rfl rfl (by decide +kernel) ⟨Nat.le_of_ble_eq_true rfl, Nat.le_of_ble_eq_true rfl⟩) (yA_V hN (xZ_k hZ hS hA) hK hP (ci := 7) (q0 := 31) rfl rfl) rfl rfl hl.1 rfl (lv_room (Nat.le_of_ble_eq_true rfl)) dX7_search_42 ⟨Nat.le_of_ble_eq_true rfl, Nat.le_of_ble_eq_true rfl⟩) hS hA hP (fun r3 u3 H locs hw3 hP hS => ?_)
  have hw3 : (0 ≤ r3.toInt ∧ r3.toInt ≤ 1023) := hw3
  refine lv_bipush (v := (-9)) hx hb dX7_search_45 (by decide) ?_
  refine lv_iconst (v := 0) hx hb dX7_search_47 (by decide) ?_
  have rb185_i : (i 185).toInt = -9 ∨ (0 ≤ (i 185).toInt ∧ (i 185).toInt ≤ 29) := hI.1 185
  refine al_callv (va_runV (As := [.int r2, .int r3, .int (-9), .int 0]) (rest := []) ⟨hx, hb, hml, hown, hts⟩ (x_X7_keep l D H.size .null a t (upd (upd (upd (upd i 176 w1) 177 w2) 175 (-9)) 174 0) q (updF c 169 (fun _ => ((-9) : Int32))) d r2 r3 (-9) 0 hI (show 0 ≤ r3.toInt ∧ r3.toInt ≤ 1023 from by have h92 : ((-9) : Int32).toInt = -9 := (by decide); have h93 : (0 : Int32).toInt = 0 := (by decide); have h62 : ((-9) : Int32).toInt = -9 := (by decide); have h63 : (0 : Int32).toInt = 0 := (by decide); omega) (show (-9) = -9 ∨ (0 ≤ (-9) ∧ (-9) ≤ 299) from by have h92 : ((-9) : Int32).toInt = -9 := (by decide); have h93 : (0 : Int32).toInt = 0 := (by decide); have h62 : ((-9) : Int32).toInt = -9 := (by decide); have h63 : (0 : Int32).toInt = 0 := (by decide); omega) (show (0 : Int32).toInt ≤ 299 from by have h92 : ((-9) : Int32).toInt = -9 := (by decide); have h93 : (0 : Int32).toInt = 0 := (by decide); have h62 : ((-9) : Int32).toInt = -9 := (by decide); have h63 : (0 : Int32).toInt = 0 := (by decide); omega) (show 0 ≤ ((i 185) : Int32).toInt ∧ ((i 185) : Int32).toInt ≤ 29 from by have h92 : ((-9) : Int32).toInt = -9 := (by decide); have h93 : (0 : Int32).toInt = 0 := (by decide); have h62 : ((-9) : Int32).toInt = -9 := (by decide); have h63 : (0 : Int32).toInt = 0 := (by decide); omega) hKJ hPS) (cwV 4 hts gm_X7_search_X7_keep_103 rfl rfl rfl (by decide +kernel) ⟨Nat.le_of_ble_eq_true rfl, Nat.le_of_ble_eq_true rfl⟩) (yB_V hN (xZ_k hZ hS hA) (xZ_n hZ hD) hK hP hD (ci := 7) (q0 := 31) rfl rfl) rfl rfl hl.1 rfl (lv_room (Nat.le_of_ble_eq_true rfl)) dX7_search_48 ⟨Nat.le_of_ble_eq_true rfl, Nat.le_of_ble_eq_true rfl⟩) hS hA hP hD (fun u4 H locs hw4 hP hD hS => ?_)
  obtain ⟨i4, q4, c4, d4⟩ := u4
  have hw4 : True ∧ xInv i4 c4 ∧ (∀ k, k ∉ ([174, 175] : List Nat) → i4 k = (upd (upd (upd (upd i 176 w1) 177 w2) 175 (-9)) 174 0) k) ∧ (∀ k, k ∉ ([167, 168, 169, 170, 171] : List Nat) → c4 k = (updF c 169 (fun _ => ((-9) : Int32))) k) ∧ (KJ (c4 167) (i4 174).toInt (i4 185)) ∧ ((i4 174).toInt = ((upd (upd (upd (upd i 176 w1) 177 w2) 175 (-9)) 174 0) 174).toInt + 1) := hw4
  obtain ⟨hw4, hI, hei4, hec4, hxp4_0, hxp4_1⟩ := hw4
  have hxp4_0 : KJ (c4 167) (i4 174).toInt (i4 185) := hxp4_0
  have hxp4_1 : (i4 174).toInt = ((upd (upd (upd (upd i 176 w1) 177 w2) 175 (-9)) 174 0) 174).toInt + 1 := hxp4_1
  have hfi : ∀ k, k ∉ ([174, 175, 176, 177] : List Nat) → i4 k = i k := fr_z hfi hei4 (by decide) (by decide)
  have hfc : ∀ k, k ∉ ([167, 168, 169, 170, 171] : List Nat) → c4 k = c k := fr_z hfc hec4 (by decide) (by decide)
  have hPS : PS (c4 179) ((i4 185) : Int32) := by rw [show c4 179 = (updF c 169 (fun _ => ((-9) : Int32))) 179 from hec4 179 (by decide), show i4 185 = (upd (upd (upd (upd i 176 w1) 177 w2) 175 (-9)) 174 0) 185 from hei4 185 (by decide)]; exact hPS
  have hKJ : KJ (c4 167) ((i4 174) : Int32).toInt ((i4 185) : Int32) := hxp4_0
  refine lv_iconst (v := 0) hx hb dX7_search_51 (by decide) ?_
  refine lv_istore (lv' := [(5, .int 0), (4, .int r2), (0, .ref (a 166)), (1, .int w1), (2, .int w2), (3, .int b1)]) hx hb dX7_search_52 hl (by decide) rfl (fun ls hl => ?_)
  have lp5 : ∀ (fu : Nat) (i5 : Nat → Int32) (q5 : Int64) (c5 : Nat → Nat → Int32) (d5 : Nat → Nat → Int64) (y5_5 : Int32), xInv i5 c5 → (∀ k, k ∉ ([174, 175, 176, 177, 183] : List Nat) → i5 k = i k) → (∀ k, k ∉ ([167, 168, 169, 170, 171, 179, 181, 182] : List Nat) → c5 k = c k) → (KJ (c5 167) ((i5 174) : Int32).toInt ((i5 185) : Int32)) → (0 ≤ y5_5.toInt ∧ y5_5.toInt ≤ 300) → (300 - y5_5.toInt).toNat < fu → ∀ (H : Heap) (locs : List Loc) (ls : Array Slot), va_P D vwCl (xwS sk a t i5 q5 c5 d5) H → va_D A (xwS sk a t i5 q5 c5 d5) → va_S A s.heap H locs → lv_has ls 6 [(5, .int y5_5), (4, .int r2), (0, .ref (a 166)), (1, .int w1), (2, .int w2), (3, .int b1)] → W p l e (headSpec wm_X7_search ({ frames := 72, cells := 0, slots := 0, locals := 1874 })).room s m ([.ref (a 166), .int w1, .int w2, .int b1] : List Value).toArray below meth cd H locs 0 0 (MQ below (va_Qi (fun (r : Int32) (u : MS) => True ∧ xInv u.1 u.2.2.1 ∧ (∀ k, k ∉ ([173, 174, 175, 176, 177, 183] : List Nat) → u.1 k = i k) ∧ (∀ k, k ∉ ([167, 168, 169, 170, 171, 172, 179, 181, 182] : List Nat) → u.2.2.1 k = c k)) (oC D A (fun u : MS => xwS sk a t u.1 u.2.1 u.2.2.1 u.2.2.2) (fun _ => [])) A) ([.ref (a 166), .int w1, .int w2, .int b1] : List Value).toArray s 0 0 A) (F0 m 54 ls []) := by
    intro fu
    induction fu with
    | zero => intro i5 q5 c5 d5 y5_5 hI hfi hfc hKJ hy5_5 hm; exact absurd hm (Nat.not_lt_zero _)
    | succ fu ih =>
      intro i5 q5 c5 d5 y5_5 hI hfi hfc hKJ hy5_5 hm H locs ls hP hD hS hl
      have ih5 := ih
      refine lv_iload hx hb dX7_search_54 (lv_at hl 0 rfl) ?_
      refine lv_iload_n hx hb dX7_search_56 rfl (lv_at hl 5 rfl) ?_
      refine lv_icmp_ge (tgt := 88) hx hb dX7_search_57 (by decide) (fun c6 => ?_) (fun c6 => ?_)
      · have f6 := (ti_le (a := b1.toInt) (b := y5_5.toInt) rfl rfl).mp c6
        refine lv_aload_n hx hb dX7_search_88 rfl (lv_at hl 2 rfl) ?_
        refine al_callv (va_runV (As := []) (rest := []) ⟨hx, hb, hml, hown, hts⟩ (x_X7_tellPlay l D H.size .null a t i5 q5 c5 d5  hI ) (cwV 0 hts gm_X7_search_X7_tellPlay_115 rfl rfl rfl (by decide +kernel) ⟨Nat.le_of_ble_eq_true rfl, Nat.le_of_ble_eq_true rfl⟩) (yB_V hN (xZ_k hZ hS hA) (xZ_n hZ hD) hK hP hD (ci := 7) (q0 := 31) rfl rfl) rfl rfl hl.1 rfl (lv_room (Nat.le_of_ble_eq_true rfl)) dX7_search_89 ⟨Nat.le_of_ble_eq_true rfl, Nat.le_of_ble_eq_true rfl⟩) hS hA hP hD (fun u7 H locs hw7 hP hD hS => ?_)
        obtain ⟨i7, q7, c7, d7⟩ := u7
        have hw7 : True ∧ xInv i7 c7 ∧ (∀ k, k ∉ ([173] : List Nat) → i7 k = i5 k) ∧ (∀ k, k ∉ ([172] : List Nat) → c7 k = c5 k) := hw7
        obtain ⟨hw7, hI, hei7, hec7⟩ := hw7
        have hfi : ∀ k, k ∉ ([173, 174, 175, 176, 177, 183] : List Nat) → i7 k = i k := fr_z hfi hei7 (by decide) (by decide)
        have hfc : ∀ k, k ∉ ([167, 168, 169, 170, 171, 172, 179, 181, 182] : List Nat) → c7 k = c k := fr_z hfc hec7 (by decide) (by decide)
        have hKJ : KJ (c7 167) ((i7 174) : Int32).toInt ((i7 185) : Int32) := by rw [show c7 167 = c5 167 from hec7 167 (by decide), show i7 174 = i5 174 from hei7 174 (by decide), show i7 185 = i5 185 from hei7 185 (by decide)]; exact hKJ
        refine lv_aload_n hx hb dX7_search_92 rfl (lv_at hl 2 rfl) ?_
        refine xgS_S_playLength (v := (i7 173)) rfl hx hb hts (fun _ h => List.mem_cons_of_mem _ (List.mem_append_left _ (List.mem_append_left _ (List.mem_append_left _ (List.mem_append_left _ (List.mem_append_left _ (List.mem_append_left _ (List.mem_append_left _ (List.mem_append_right _ h))))))))) hown hK hP (hts (.fieldLink RX7 61 "TalePlay$Seeker" "playLength" "I") (by decide +kernel)) dX7_search_93 ?_
        have rb173_i7 : (i7 173).toInt = -9 ∨ (0 ≤ (i7 173).toInt ∧ (i7 173).toInt ≤ 300) := hI.1 173
        exact rw_iret (i7, q7, c7, d7) hx hb hr hlocks hS (hK.sub (tys' := []) [] rfl) hP hD dX7_search_96 ⟨trivial, hI, fr_w hfi (by decide), fr_w hfc (by decide)⟩
      · have f6 := mt (ti_le (a := b1.toInt) (b := y5_5.toInt) rfl rfl).mpr c6
        refine lv_iload hx hb dX7_search_60 (lv_at hl 0 rfl) ?_
        refine lv_aload_n hx hb dX7_search_62 rfl (lv_at hl 2 rfl) ?_
        refine xgS_S_states (v := (i5 174)) rfl hx hb hts (fun _ h => List.mem_cons_of_mem _ (List.mem_append_left _ (List.mem_append_left _ (List.mem_append_left _ (List.mem_append_left _ (List.mem_append_left _ (List.mem_append_left _ (List.mem_append_left _ (List.mem_append_right _ h))))))))) hown hK hP (hts (.fieldLink RX7 86 "TalePlay$Seeker" "states" "I") (by decide +kernel)) dX7_search_63 ?_
        have rb174_i5 : 0 ≤ (i5 174).toInt ∧ (i5 174).toInt ≤ 300 := hI.1 174
        refine lv_icmp_ge (tgt := 88) hx hb dX7_search_66 (by decide) (fun c8 => ?_) (fun c8 => ?_)
        · have f8 := (ti_le (a := (i5 174).toInt) (b := y5_5.toInt) rfl rfl).mp c8
          refine lv_aload_n hx hb dX7_search_88 rfl (lv_at hl 2 rfl) ?_
          refine al_callv (va_runV (As := []) (rest := []) ⟨hx, hb, hml, hown, hts⟩ (x_X7_tellPlay l D H.size .null a t i5 q5 c5 d5  hI ) (cwV 0 hts gm_X7_search_X7_tellPlay_115 rfl rfl rfl (by decide +kernel) ⟨Nat.le_of_ble_eq_true rfl, Nat.le_of_ble_eq_true rfl⟩) (yB_V hN (xZ_k hZ hS hA) (xZ_n hZ hD) hK hP hD (ci := 7) (q0 := 31) rfl rfl) rfl rfl hl.1 rfl (lv_room (Nat.le_of_ble_eq_true rfl)) dX7_search_89 ⟨Nat.le_of_ble_eq_true rfl, Nat.le_of_ble_eq_true rfl⟩) hS hA hP hD (fun u9 H locs hw9 hP hD hS => ?_)
          obtain ⟨i9, q9, c9, d9⟩ := u9
          have hw9 : True ∧ xInv i9 c9 ∧ (∀ k, k ∉ ([173] : List Nat) → i9 k = i5 k) ∧ (∀ k, k ∉ ([172] : List Nat) → c9 k = c5 k) := hw9
          obtain ⟨hw9, hI, hei9, hec9⟩ := hw9
          have hfi : ∀ k, k ∉ ([173, 174, 175, 176, 177, 183] : List Nat) → i9 k = i k := fr_z hfi hei9 (by decide) (by decide)
          have hfc : ∀ k, k ∉ ([167, 168, 169, 170, 171, 172, 179, 181, 182] : List Nat) → c9 k = c k := fr_z hfc hec9 (by decide) (by decide)
          have hKJ : KJ (c9 167) ((i9 174) : Int32).toInt ((i9 185) : Int32) := by rw [show c9 167 = c5 167 from hec9 167 (by decide), show i9 174 = i5 174 from hei9 174 (by decide), show i9 185 = i5 185 from hei9 185 (by decide)]; exact hKJ
          refine lv_aload_n hx hb dX7_search_92 rfl (lv_at hl 2 rfl) ?_
          refine xgS_S_playLength (v := (i9 173)) rfl hx hb hts (fun _ h => List.mem_cons_of_mem _ (List.mem_append_left _ (List.mem_append_left _ (List.mem_append_left _ (List.mem_append_left _ (List.mem_append_left _ (List.mem_append_left _ (List.mem_append_left _ (List.mem_append_right _ h))))))))) hown hK hP (hts (.fieldLink RX7 61 "TalePlay$Seeker" "playLength" "I") (by decide +kernel)) dX7_search_93 ?_
          have rb173_i9 : (i9 173).toInt = -9 ∨ (0 ≤ (i9 173).toInt ∧ (i9 173).toInt ≤ 300) := hI.1 173
          exact rw_iret (i9, q9, c9, d9) hx hb hr hlocks hS (hK.sub (tys' := []) [] rfl) hP hD dX7_search_96 ⟨trivial, hI, fr_w hfi (by decide), fr_w hfc (by decide)⟩
        · have f8 := mt (ti_le (a := (i5 174).toInt) (b := y5_5.toInt) rfl rfl).mpr c8
          refine lv_aload_n hx hb dX7_search_69 rfl (lv_at hl 2 rfl) ?_
          have rb175_i5 : (i5 175).toInt = -9 ∨ (0 ≤ (i5 175).toInt ∧ (i5 175).toInt ≤ 299) := hI.1 175
          refine ro_calli (va_runV (As := []) (rest := []) ⟨hx, hb, hml, hown, hts⟩ (x_X7_isEnded l D H.size .null a t i5 q5 c5 d5  hI ) (cwV 0 hts gm_X7_search_X7_isEnded_107 rfl rfl rfl (by decide +kernel) ⟨Nat.le_of_ble_eq_true rfl, Nat.le_of_ble_eq_true rfl⟩) (yA_V hN (xZ_k hZ hS hA) hK hP (ci := 7) (q0 := 31) rfl rfl) rfl rfl hl.1 rfl (lv_room (Nat.le_of_ble_eq_true rfl)) dX7_search_70 ⟨Nat.le_of_ble_eq_true rfl, Nat.le_of_ble_eq_true rfl⟩) hS hA hP (fun r10 u10 H locs hw10 hP hS => ?_)
          have hw10 : r10 = if (¬ (i5 175).toInt = -9 ∨ 300 ≤ (i5 174).toInt) then 1 else 0 := hw10
          refine lv_if_ne (tgt := 88) hx hb dX7_search_73 (by decide) (fun c11 => ?_) (fun c11 => ?_)
          · have f11 := fl_t hw10 c11
            refine lv_aload_n hx hb dX7_search_88 rfl (lv_at hl 2 rfl) ?_
            refine al_callv (va_runV (As := []) (rest := []) ⟨hx, hb, hml, hown, hts⟩ (x_X7_tellPlay l D H.size .null a t i5 q5 c5 d5  hI ) (cwV 0 hts gm_X7_search_X7_tellPlay_115 rfl rfl rfl (by decide +kernel) ⟨Nat.le_of_ble_eq_true rfl, Nat.le_of_ble_eq_true rfl⟩) (yB_V hN (xZ_k hZ hS hA) (xZ_n hZ hD) hK hP hD (ci := 7) (q0 := 31) rfl rfl) rfl rfl hl.1 rfl (lv_room (Nat.le_of_ble_eq_true rfl)) dX7_search_89 ⟨Nat.le_of_ble_eq_true rfl, Nat.le_of_ble_eq_true rfl⟩) hS hA hP hD (fun u12 H locs hw12 hP hD hS => ?_)
            obtain ⟨i12, q12, c12, d12⟩ := u12
            have hw12 : True ∧ xInv i12 c12 ∧ (∀ k, k ∉ ([173] : List Nat) → i12 k = i5 k) ∧ (∀ k, k ∉ ([172] : List Nat) → c12 k = c5 k) := hw12
            obtain ⟨hw12, hI, hei12, hec12⟩ := hw12
            have hfi : ∀ k, k ∉ ([173, 174, 175, 176, 177, 183] : List Nat) → i12 k = i k := fr_z hfi hei12 (by decide) (by decide)
            have hfc : ∀ k, k ∉ ([167, 168, 169, 170, 171, 172, 179, 181, 182] : List Nat) → c12 k = c k := fr_z hfc hec12 (by decide) (by decide)
            have hKJ : KJ (c12 167) ((i12 174) : Int32).toInt ((i12 185) : Int32) := by rw [show c12 167 = c5 167 from hec12 167 (by decide), show i12 174 = i5 174 from hei12 174 (by decide), show i12 185 = i5 185 from hei12 185 (by decide)]; exact hKJ
            refine lv_aload_n hx hb dX7_search_92 rfl (lv_at hl 2 rfl) ?_
            refine xgS_S_playLength (v := (i12 173)) rfl hx hb hts (fun _ h => List.mem_cons_of_mem _ (List.mem_append_left _ (List.mem_append_left _ (List.mem_append_left _ (List.mem_append_left _ (List.mem_append_left _ (List.mem_append_left _ (List.mem_append_left _ (List.mem_append_right _ h))))))))) hown hK hP (hts (.fieldLink RX7 61 "TalePlay$Seeker" "playLength" "I") (by decide +kernel)) dX7_search_93 ?_
            have rb173_i12 : (i12 173).toInt = -9 ∨ (0 ≤ (i12 173).toInt ∧ (i12 173).toInt ≤ 300) := hI.1 173
            exact rw_iret (i12, q12, c12, d12) hx hb hr hlocks hS (hK.sub (tys' := []) [] rfl) hP hD dX7_search_96 ⟨trivial, hI, fr_w hfi (by decide), fr_w hfc (by decide)⟩
          · have f11 := fl_f hw10 c11
            refine lv_aload_n hx hb dX7_search_76 rfl (lv_at hl 2 rfl) ?_
            refine lv_iload hx hb dX7_search_77 (lv_at hl 0 rfl) ?_
            have rb141_i5 : 0 ≤ (i5 141).toInt ∧ (i5 141).toInt ≤ 1 := hI.1 141
            have re141_i5 : (i5 141).toInt = (i 141).toInt := congrArg Int32.toInt (hfi 141 (by decide))
            have rb185_i5 : (i5 185).toInt = -9 ∨ (0 ≤ (i5 185).toInt ∧ (i5 185).toInt ≤ 29) := hI.1 185
            have re185_i5 : (i5 185).toInt = (i 185).toInt := congrArg Int32.toInt (hfi 185 (by decide))
            refine al_callv (va_runV (As := [.int y5_5]) (rest := []) ⟨hx, hb, hml, hown, hts⟩ (x_X7_tryFrom l D H.size .null a t i5 q5 c5 d5 y5_5 hI (show 0 ≤ y5_5.toInt ∧ y5_5.toInt ≤ 299 from by omega) (show y5_5.toInt < ((i5 174) : Int32).toInt from by omega) (show 0 ≤ ((i5 185) : Int32).toInt ∧ ((i5 185) : Int32).toInt ≤ 29 from by omega) (show ((i5 141) : Int32).toInt = 0 from by omega) hKJ) (cwV 1 hts gm_X7_search_X7_tryFrom_111 rfl rfl rfl (by decide +kernel) ⟨Nat.le_of_ble_eq_true rfl, Nat.le_of_ble_eq_true rfl⟩) (yB_V hN (xZ_k hZ hS hA) (xZ_n hZ hD) hK hP hD (ci := 7) (q0 := 31) rfl rfl) rfl rfl hl.1 rfl (lv_room (Nat.le_of_ble_eq_true rfl)) dX7_search_79 ⟨Nat.le_of_ble_eq_true rfl, Nat.le_of_ble_eq_true rfl⟩) hS hA hP hD (fun u13 H locs hw13 hP hD hS => ?_)
            obtain ⟨i13, q13, c13, d13⟩ := u13
            have hw13 : True ∧ xInv i13 c13 ∧ (∀ k, k ∉ ([174, 175, 183] : List Nat) → i13 k = i5 k) ∧ (∀ k, k ∉ ([167, 168, 169, 170, 171, 179, 181, 182] : List Nat) → c13 k = c5 k) ∧ (KJ (c13 167) (i13 174).toInt (i13 185)) ∧ ((i5 174).toInt ≤ (i13 174).toInt) := hw13
            obtain ⟨hw13, hI, hei13, hec13, hxp13_0, hxp13_1⟩ := hw13
            have hxp13_0 : KJ (c13 167) (i13 174).toInt (i13 185) := hxp13_0
            have hxp13_1 : (i5 174).toInt ≤ (i13 174).toInt := hxp13_1
            have hfi : ∀ k, k ∉ ([174, 175, 176, 177, 183] : List Nat) → i13 k = i k := fr_z hfi hei13 (by decide) (by decide)
            have hfc : ∀ k, k ∉ ([167, 168, 169, 170, 171, 179, 181, 182] : List Nat) → c13 k = c k := fr_z hfc hec13 (by decide) (by decide)
            have hKJ : KJ (c13 167) ((i13 174) : Int32).toInt ((i13 185) : Int32) := hxp13_0
            obtain ⟨x14, ex14⟩ : ∃ y : Int32, y = y5_5 + 1 := ⟨_, rfl⟩
            have tx14 := ti_add (a := y5_5.toInt) (b := 1) ex14 rfl (by decide) (by omega) (by omega)
            refine lv_iinc (v := x14) (lv' := [(5, .int x14), (4, .int r2), (0, .ref (a 166)), (1, .int w1), (2, .int w2), (3, .int b1)]) hx hb dX7_search_82 hl (k := 0) rfl (by rw [ex14]; rfl) (by decide) rfl (fun ls hl => ?_)
            refine lv_goto (tgt := 54) hx hb dX7_search_85 (by decide) ?_
            exact ih5 i13 q13 c13 d13 x14 hI (fr_w hfi (by decide)) (fr_w hfc (by decide)) hKJ (show 0 ≤ x14.toInt ∧ x14.toInt ≤ 300 from by have h50 : x14.toInt = (y5_5.toInt + 1) := tx14; omega) (by have h50 : x14.toInt = (y5_5.toInt + 1) := tx14; omega) _ _ _ hP hD hS (lv_sub hl [0, 1, 2, 3, 4, 5] rfl)
  exact lp5 _ i4 q4 c4 d4 (0 : Int32) hI (fr_w hfi (by decide)) (fr_w hfc (by decide)) hKJ (show 0 ≤ (0 : Int32).toInt ∧ (0 : Int32).toInt ≤ 300 from by have h50 : (0 : Int32).toInt = 0 := (by decide); omega) (Nat.lt_succ_self _) _ _ _ hP hD hS (lv_sub hl [0, 1, 2, 3, 4, 5] rfl)

