def wm_X11_answerFinding : List Cond := .code yX11_answerFinding cX11_answerFinding 2 (some .int) :: (([.fieldLink RX11 72 "TalePlay" "latestFinding" "I", .fieldLink RX11 68 "TalePlay" "findingCounts" "[I"] : List Cond) ++ wsX110)
set_option maxHeartbeats 4000000 in
set_option maxRecDepth 100000 in
theorem x_X11_answerFinding (l : Launch) (D : va_G) (sz : Nat) (sk : Value) (a : Nat → Nat) (t : Nat → ClassId) (i : Nat → Int32) (q : Int64) (c : Nat → Nat → Int32) (d : Nat → Nat → Int64) (f : Int32) (hI : xInv i c) (hf : 1 ≤ f.toInt ∧ f.toInt ≤ 6) : Met l yX11_answerFinding wm_X11_answerFinding ({ frames := 0, cells := 0, slots := 0, locals := 0 }) (va_Pc [.ref (a 100), .int f] (yB (a 186) D sz (xwT sk a t i q c d) (xtT t))) (va_Qi (fun (r : Int32) (u : MS) => r = (-3) ∧ xInv u.1 u.2.2.1 ∧ (∀ k, k ∉ ([102] : List Nat) → u.1 k = i k) ∧ (∀ k, k ∉ ([101] : List Nat) → u.2.2.1 k = c k)) (oC D (va_A (xwT sk a t i q c d) sz) (fun u : MS => xwT sk a t u.1 u.2.1 u.2.2.1 u.2.2.2) (fun _ => [])) (va_A (xwT sk a t i q c d) sz)) 0 0 (va_A (xwT sk a t i q c d) sz) := by
  refine Met.ofW (cc := cX11_answerFinding) (maxL := 2) (ret := (some .int)) (by decide +kernel) rfl ?_
  intro p e s m args below meth cd s₁ B hml hv
  obtain ⟨rfl, ⟨hsz, hP, hK, hD0⟩, hN, hZ, hBW⟩ := hv
  have hx := B.exec
  have hb := B.bytes
  have hr := B.returns
  have hts := atoms_spec (ws := wm_X11_answerFinding) B.pre
  have hown : s.vm.findClass RX11 = some m.cls := findClass_of_methodNamed B.named
  have hlocks := B.notSynchronized
  subst hsz
  have hD := hD0.self (sz := s.heap.size)
  have hZ := xZ_A hZ hP hBW
  generalize hAe : va_A (xwT sk a t i q c d) s.heap.size = A at hD hZ ⊢
  have hA : ∀ q : Nat, s.heap.size ≤ q → A q := fun q h => by rw [← hAe]; exact Or.inr h
  have hS : va_S A s.heap s.heap [] := va_S.rf
  have hfi : ∀ k, k ∉ ([] : List Nat) → i k = i k := fun _ _ => rfl
  have hfc : ∀ k, k ∉ ([] : List Nat) → c k = c k := fun _ _ => rfl
  have hl := lv_entry ([.ref (a 100), .int f]) (n := 2) (Nat.le_of_ble_eq_true rfl)
  rw [lg_entry_eq]
  generalize (lg_sl ([.ref (a 100), .int f]) ++ List.replicate (2 - (lg_sl ([.ref (a 100), .int f])).length) Slot.unset).toArray = ls at hl ⊢
  have hl : lv_has ls 2 [(0, .ref (a 100)), (1, .int f)] := hl
  refine lv_aload_n hx hb dX11_answerFinding_0 rfl (lv_at hl 0 rfl) ?_
  refine lv_iload_n hx hb dX11_answerFinding_1 rfl (lv_at hl 1 rfl) ?_
  refine xpT_X_latestFinding hx hb hts (fun _ h => List.mem_cons_of_mem _ (List.mem_append_right _ h)) hown hK hP hD hS (hts (.fieldLink RX11 72 "TalePlay" "latestFinding" "I") (List.mem_cons_of_mem _ (List.mem_append_left _ (List.mem_of_getElem? (i := 0) rfl)))) rfl rfl dX11_answerFinding_2 (fun H locs hP hD hS => ?_)
  have hI := xInv_i hI (k := 102) (v := f) (show 0 ≤ (f : Int32).toInt ∧ (f : Int32).toInt ≤ 6 from by omega)
  have hfi : ∀ k, k ∉ ([102] : List Nat) → (upd i 102 f) k = i k := fr_iz hfi (by decide +kernel) (by decide +kernel)
  refine lv_aload_n hx hb dX11_answerFinding_5 rfl (lv_at hl 0 rfl) ?_
  refine xgT_X_findingCounts hx hb hts (fun _ h => List.mem_cons_of_mem _ (List.mem_append_right _ h)) hown hK hP (hts (.fieldLink RX11 68 "TalePlay" "findingCounts" "[I") (List.mem_cons_of_mem _ (List.mem_append_left _ (List.mem_of_getElem? (i := 1) rfl)))) dX11_answerFinding_6 ?_
  refine lv_iload_n hx hb dX11_answerFinding_9 rfl (lv_at hl 1 rfl) ?_
  refine lv_dup2_11 hx hb dX11_answerFinding_10 rfl rfl ?_
  refine xlT_101 hx hb hK hP (vp_in_iff.mpr (by have h9 : f.toInt = f.toInt := rfl; omega)) dX11_answerFinding_11 (fun x1 ex1 => ?_)
  refine lv_iconst (v := 1) hx hb dX11_answerFinding_12 (by decide +kernel) ?_
  refine lv_iadd hx hb dX11_answerFinding_13 ?_
  refine lv_topi (fun x2 ex2 => ?_)
  refine xsT_101 hx hb hK hP hD hS (vp_in_iff.mpr (by have h9 : f.toInt = f.toInt := rfl; omega)) dX11_answerFinding_14 (fun H locs hP hD hS => ?_)
  have hI := xInv_c hI (k := 101) (j := (f : Int32).toNatClampNeg) (x := x2) (show True from trivial)
  have hfc : ∀ k, k ∉ ([101] : List Nat) → (updA c 101 (f : Int32).toNatClampNeg x2) k = c k := fr_cz hfc (by decide +kernel) (by decide +kernel)
  refine lv_bipush (v := (-3)) hx hb dX11_answerFinding_15 (by decide +kernel) ?_
  exact rw_iret ((upd i 102 f), q, (updA c 101 (f : Int32).toNatClampNeg x2), d) hx hb hr hlocks hS (hK.sub (tys' := []) [] rfl) hP hD dX11_answerFinding_17 ⟨rfl, hI, fr_w hfi (by decide +kernel), fr_w hfc (by decide +kernel)⟩

def wm_X11_refuseRooms : List Cond := .code yX11_refuseRooms cX11_refuseRooms 3 (some .int) :: ((([.fieldLink RX11 10 "TalePlay" "world" "LTalePlay$World;", .methodLink RX11 109 yX10_hasObject, .instanceMethod yX10_hasObject, .selects RX10 yX10_hasObject yX10_hasObject, .initialized RX10, .code yX10_hasObject cX10_hasObject 2 (some .boolean), .fieldLink RX10 37 "TalePlay$World" "objects" "I", .methodLink RX11 125 yX10_sortOf, .instanceMethod yX10_sortOf, .selects RX10 yX10_sortOf yX10_sortOf, .code yX10_sortOf cX10_sortOf 2 (some .int), .fieldLink RX10 15 "TalePlay$World" "sorts" "[I", .fieldLink RX10 21 "TalePlay$World" "kindOf" "[I", .methodLink RX11 128 yX11_answerFinding, .instanceMethod yX11_answerFinding, .selects RX11 yX11_answerFinding yX11_answerFinding] : List Cond) ++ ([.initialized RX11, .code yX11_answerFinding cX11_answerFinding 2 (some .int), .fieldLink RX11 72 "TalePlay" "latestFinding" "I", .fieldLink RX11 68 "TalePlay" "findingCounts" "[I"] : List Cond)) ++ wsX110 ++ wsX100)
set_option maxRecDepth 20000 in
theorem gm_X11_refuseRooms_X10_hasObject_109 : GoodIn wm_X11_refuseRooms (wsV RX11 109 RX10 yX10_hasObject wm_X10_hasObject) := goodIn_w (List.forall_mem_append.mpr ⟨List.forall_mem_cons.mpr ⟨List.mem_cons_of_mem _ (List.mem_append_left _ (List.mem_append_left _ (List.mem_append_left _ (List.mem_of_getElem? (i := 1) rfl)))), List.forall_mem_cons.mpr ⟨List.mem_cons_of_mem _ (List.mem_append_left _ (List.mem_append_left _ (List.mem_append_left _ (List.mem_of_getElem? (i := 2) rfl)))), List.forall_mem_cons.mpr ⟨List.mem_cons_of_mem _ (List.mem_append_left _ (List.mem_append_left _ (List.mem_append_left _ (List.mem_of_getElem? (i := 3) rfl)))), List.forall_mem_cons.mpr ⟨List.mem_cons_of_mem _ (List.mem_append_left _ (List.mem_append_left _ (List.mem_append_left _ (List.mem_of_getElem? (i := 4) rfl)))), (fun _ h => absurd h List.not_mem_nil)⟩⟩⟩⟩, List.forall_mem_cons.mpr ⟨List.mem_cons_of_mem _ (List.mem_append_left _ (List.mem_append_left _ (List.mem_append_left _ (List.mem_of_getElem? (i := 5) rfl)))), List.forall_mem_append.mpr ⟨List.forall_mem_cons.mpr ⟨List.mem_cons_of_mem _ (List.mem_append_left _ (List.mem_append_left _ (List.mem_append_left _ (List.mem_of_getElem? (i := 6) rfl)))), (fun _ h => absurd h List.not_mem_nil)⟩, (fun _ h => List.mem_cons_of_mem _ (List.mem_append_right _ h))⟩⟩⟩) (by decide +kernel)
set_option maxRecDepth 20000 in
theorem gm_X11_refuseRooms_X10_sortOf_125 : GoodIn wm_X11_refuseRooms (wsV RX11 125 RX10 yX10_sortOf wm_X10_sortOf) := goodIn_w (List.forall_mem_append.mpr ⟨List.forall_mem_cons.mpr ⟨List.mem_cons_of_mem _ (List.mem_append_left _ (List.mem_append_left _ (List.mem_append_left _ (List.mem_of_getElem? (i := 7) rfl)))), List.forall_mem_cons.mpr ⟨List.mem_cons_of_mem _ (List.mem_append_left _ (List.mem_append_left _ (List.mem_append_left _ (List.mem_of_getElem? (i := 8) rfl)))), List.forall_mem_cons.mpr ⟨List.mem_cons_of_mem _ (List.mem_append_left _ (List.mem_append_left _ (List.mem_append_left _ (List.mem_of_getElem? (i := 9) rfl)))), List.forall_mem_cons.mpr ⟨List.mem_cons_of_mem _ (List.mem_append_left _ (List.mem_append_left _ (List.mem_append_left _ (List.mem_of_getElem? (i := 4) rfl)))), (fun _ h => absurd h List.not_mem_nil)⟩⟩⟩⟩, List.forall_mem_cons.mpr ⟨List.mem_cons_of_mem _ (List.mem_append_left _ (List.mem_append_left _ (List.mem_append_left _ (List.mem_of_getElem? (i := 10) rfl)))), List.forall_mem_append.mpr ⟨List.forall_mem_cons.mpr ⟨List.mem_cons_of_mem _ (List.mem_append_left _ (List.mem_append_left _ (List.mem_append_left _ (List.mem_of_getElem? (i := 6) rfl)))), List.forall_mem_cons.mpr ⟨List.mem_cons_of_mem _ (List.mem_append_left _ (List.mem_append_left _ (List.mem_append_left _ (List.mem_of_getElem? (i := 11) rfl)))), List.forall_mem_cons.mpr ⟨List.mem_cons_of_mem _ (List.mem_append_left _ (List.mem_append_left _ (List.mem_append_left _ (List.mem_of_getElem? (i := 12) rfl)))), (fun _ h => absurd h List.not_mem_nil)⟩⟩⟩, (fun _ h => List.mem_cons_of_mem _ (List.mem_append_right _ h))⟩⟩⟩) (by decide +kernel)
set_option maxRecDepth 20000 in
theorem gm_X11_refuseRooms_X11_answerFinding_128 : GoodIn wm_X11_refuseRooms (wsV RX11 128 RX11 yX11_answerFinding wm_X11_answerFinding) := goodIn_w (List.forall_mem_append.mpr ⟨List.forall_mem_cons.mpr ⟨List.mem_cons_of_mem _ (List.mem_append_left _ (List.mem_append_left _ (List.mem_append_left _ (List.mem_of_getElem? (i := 13) rfl)))), List.forall_mem_cons.mpr ⟨List.mem_cons_of_mem _ (List.mem_append_left _ (List.mem_append_left _ (List.mem_append_left _ (List.mem_of_getElem? (i := 14) rfl)))), List.forall_mem_cons.mpr ⟨List.mem_cons_of_mem _ (List.mem_append_left _ (List.mem_append_left _ (List.mem_append_left _ (List.mem_of_getElem? (i := 15) rfl)))), List.forall_mem_cons.mpr ⟨List.mem_cons_of_mem _ (List.mem_append_left _ (List.mem_append_left _ (List.mem_append_right _ (List.mem_of_getElem? (i := 0) rfl)))), (fun _ h => absurd h List.not_mem_nil)⟩⟩⟩⟩, List.forall_mem_cons.mpr ⟨List.mem_cons_of_mem _ (List.mem_append_left _ (List.mem_append_left _ (List.mem_append_right _ (List.mem_of_getElem? (i := 1) rfl)))), List.forall_mem_append.mpr ⟨List.forall_mem_cons.mpr ⟨List.mem_cons_of_mem _ (List.mem_append_left _ (List.mem_append_left _ (List.mem_append_right _ (List.mem_of_getElem? (i := 2) rfl)))), List.forall_mem_cons.mpr ⟨List.mem_cons_of_mem _ (List.mem_append_left _ (List.mem_append_left _ (List.mem_append_right _ (List.mem_of_getElem? (i := 3) rfl)))), (fun _ h => absurd h List.not_mem_nil)⟩⟩, (fun _ h => List.mem_cons_of_mem _ (List.mem_append_left _ (List.mem_append_right _ h)))⟩⟩⟩) (by decide +kernel)
set_option maxHeartbeats 4000000 in
set_option maxRecDepth 100000 in
theorem x_X11_refuseRooms (l : Launch) (D : va_G) (sz : Nat) (sk : Value) (a : Nat → Nat) (t : Nat → ClassId) (i : Nat → Int32) (q : Int64) (c : Nat → Nat → Int32) (d : Nat → Nat → Int64) (w1 : Int32) (w2 : Int32) (hI : xInv i c) : Met l yX11_refuseRooms wm_X11_refuseRooms ({ frames := 1, cells := 0, slots := 0, locals := 21 }) (va_Pc [.ref (a 100), .int w1, .int w2] (yB (a 186) D sz (xwT sk a t i q c d) (xtT t))) (va_Qi (fun (r : Int32) (u : MS) => ((r.toInt = 0 ∧ 0 ≤ w1.toInt ∧ w1.toInt < (i 111).toInt ∧ 0 ≤ w2.toInt ∧ w2.toInt < (i 111).toInt) ∨ r.toInt = -1 ∨ r.toInt = -3) ∧ xInv u.1 u.2.2.1 ∧ (∀ k, k ∉ ([102] : List Nat) → u.1 k = i k) ∧ (∀ k, k ∉ ([101] : List Nat) → u.2.2.1 k = c k)) (oC D (va_A (xwT sk a t i q c d) sz) (fun u : MS => xwT sk a t u.1 u.2.1 u.2.2.1 u.2.2.2) (fun _ => [])) (va_A (xwT sk a t i q c d) sz)) 0 0 (va_A (xwT sk a t i q c d) sz) := by
  refine Met.ofW (cc := cX11_refuseRooms) (maxL := 3) (ret := (some .int)) (by decide +kernel) rfl ?_
  intro p e s m args below meth cd s₁ B hml hv
  obtain ⟨rfl, ⟨hsz, hP, hK, hD0⟩, hN, hZ, hBW⟩ := hv
  have hx := B.exec
  have hb := B.bytes
  have hr := B.returns
  have hts := atoms_spec (ws := wm_X11_refuseRooms) B.pre
  have hown : s.vm.findClass RX11 = some m.cls := findClass_of_methodNamed B.named
  have hlocks := B.notSynchronized
  subst hsz
  have hD := hD0.self (sz := s.heap.size)
  have hZ := xZ_A hZ hP hBW
  generalize hAe : va_A (xwT sk a t i q c d) s.heap.size = A at hD hZ ⊢
  have hA : ∀ q : Nat, s.heap.size ≤ q → A q := fun q h => by rw [← hAe]; exact Or.inr h
  have hS : va_S A s.heap s.heap [] := va_S.rf
  have hfi : ∀ k, k ∉ ([] : List Nat) → i k = i k := fun _ _ => rfl
  have hfc : ∀ k, k ∉ ([] : List Nat) → c k = c k := fun _ _ => rfl
  have hl := lv_entry ([.ref (a 100), .int w1, .int w2]) (n := 3) (Nat.le_of_ble_eq_true rfl)
  rw [lg_entry_eq]
  generalize (lg_sl ([.ref (a 100), .int w1, .int w2]) ++ List.replicate (3 - (lg_sl ([.ref (a 100), .int w1, .int w2])).length) Slot.unset).toArray = ls at hl ⊢
  have hl : lv_has ls 3 [(0, .ref (a 100)), (1, .int w1), (2, .int w2)] := hl
  refine lv_aload_n hx hb dX11_refuseRooms_0 rfl (lv_at hl 0 rfl) ?_
  refine xgT_X_world hx hb hts (fun _ h => List.mem_cons_of_mem _ (List.mem_append_left _ (List.mem_append_right _ h))) hown hK hP (hts (.fieldLink RX11 10 "TalePlay" "world" "LTalePlay$World;") (List.mem_cons_of_mem _ (List.mem_append_left _ (List.mem_append_left _ (List.mem_append_left _ (List.mem_of_getElem? (i := 0) rfl)))))) dX11_refuseRooms_1 ?_
  refine lv_iload_n hx hb dX11_refuseRooms_4 rfl (lv_at hl 1 rfl) ?_
  have rb111_i : 0 ≤ (i 111).toInt ∧ (i 111).toInt ≤ 30 := hI.1 111
  refine ro_calli (va_runV (As := [.int w1]) (rest := []) ⟨hx, hb, hml, hown, hts⟩ (x_X10_hasObject l D s.heap.size .null a t i q c d w1 hI ) (cwV 1 hts gm_X11_refuseRooms_X10_hasObject_109 rfl rfl rfl (by decide +kernel) ⟨Nat.le_of_ble_eq_true rfl, Nat.le_of_ble_eq_true rfl⟩) (yA_V hN (xZ_k hZ hS hA) (xkT_W hK) (xuT_W (sk := sk) hP) (ci := 10) (q0 := 0) rfl rfl) rfl rfl hl.1 rfl (lv_room (Nat.le_of_ble_eq_true rfl)) dX11_refuseRooms_5 ⟨Nat.le_of_ble_eq_true rfl, Nat.le_of_ble_eq_true rfl⟩) hS hA hP (fun r1 u1 H locs hw1 hP hS => ?_)
  have hw1 : r1 = if (0 ≤ w1.toInt ∧ w1.toInt < (i 111).toInt) then 1 else 0 := hw1
  refine lv_if_eq (tgt := 22) hx hb dX11_refuseRooms_8 (by decide +kernel) (fun c2 => ?_) (fun c2 => ?_)
  · have f2 := fl_f hw1 c2
    refine lv_iconst (v := (-1)) hx hb dX11_refuseRooms_22 (by decide +kernel) ?_
    exact rw_iret (i, q, c, d) hx hb hr hlocks hS (hK.sub (tys' := []) [] rfl) hP hD dX11_refuseRooms_23 ⟨(show (((-1) : Int32).toInt = 0 ∧ 0 ≤ w1.toInt ∧ w1.toInt < (i 111).toInt ∧ 0 ≤ w2.toInt ∧ w2.toInt < (i 111).toInt) ∨ ((-1) : Int32).toInt = -1 ∨ ((-1) : Int32).toInt = -3 from by have h9 : ((-1) : Int32).toInt = -1 := (by decide +kernel); omega), hI, fr_w hfi (by decide +kernel), fr_w hfc (by decide +kernel)⟩
  · have f2 := fl_t hw1 c2
    refine lv_aload_n hx hb dX11_refuseRooms_11 rfl (lv_at hl 0 rfl) ?_
    refine xgT_X_world hx hb hts (fun _ h => List.mem_cons_of_mem _ (List.mem_append_left _ (List.mem_append_right _ h))) hown hK hP (hts (.fieldLink RX11 10 "TalePlay" "world" "LTalePlay$World;") (List.mem_cons_of_mem _ (List.mem_append_left _ (List.mem_append_left _ (List.mem_append_left _ (List.mem_of_getElem? (i := 0) rfl)))))) dX11_refuseRooms_12 ?_
    refine lv_iload_n hx hb dX11_refuseRooms_15 rfl (lv_at hl 2 rfl) ?_
    refine ro_calli (va_runV (As := [.int w2]) (rest := []) ⟨hx, hb, hml, hown, hts⟩ (x_X10_hasObject l D H.size .null a t i q c d w2 hI ) (cwV 1 hts gm_X11_refuseRooms_X10_hasObject_109 rfl rfl rfl (by decide +kernel) ⟨Nat.le_of_ble_eq_true rfl, Nat.le_of_ble_eq_true rfl⟩) (yA_V hN (xZ_k hZ hS hA) (xkT_W hK) (xuT_W (sk := sk) hP) (ci := 10) (q0 := 0) rfl rfl) rfl rfl hl.1 rfl (lv_room (Nat.le_of_ble_eq_true rfl)) dX11_refuseRooms_16 ⟨Nat.le_of_ble_eq_true rfl, Nat.le_of_ble_eq_true rfl⟩) hS hA hP (fun r3 u3 H locs hw3 hP hS => ?_)
    have hw3 : r3 = if (0 ≤ w2.toInt ∧ w2.toInt < (i 111).toInt) then 1 else 0 := hw3
    refine lv_if_ne (tgt := 24) hx hb dX11_refuseRooms_19 (by decide +kernel) (fun c4 => ?_) (fun c4 => ?_)
    · have f4 := fl_t hw3 c4
      refine lv_aload_n hx hb dX11_refuseRooms_24 rfl (lv_at hl 0 rfl) ?_
      refine xgT_X_world hx hb hts (fun _ h => List.mem_cons_of_mem _ (List.mem_append_left _ (List.mem_append_right _ h))) hown hK hP (hts (.fieldLink RX11 10 "TalePlay" "world" "LTalePlay$World;") (List.mem_cons_of_mem _ (List.mem_append_left _ (List.mem_append_left _ (List.mem_append_left _ (List.mem_of_getElem? (i := 0) rfl)))))) dX11_refuseRooms_25 ?_
      refine lv_iload_n hx hb dX11_refuseRooms_28 rfl (lv_at hl 1 rfl) ?_
      refine ro_calli (va_runV (As := [.int w1]) (rest := []) ⟨hx, hb, hml, hown, hts⟩ (x_X10_sortOf l D H.size .null a t i q c d w1 hI ) (cwV 1 hts gm_X11_refuseRooms_X10_sortOf_125 rfl rfl rfl (by decide +kernel) ⟨Nat.le_of_ble_eq_true rfl, Nat.le_of_ble_eq_true rfl⟩) (yA_V hN (xZ_k hZ hS hA) (xkT_W hK) (xuT_W (sk := sk) hP) (ci := 10) (q0 := 0) rfl rfl) rfl rfl hl.1 rfl (lv_room (Nat.le_of_ble_eq_true rfl)) dX11_refuseRooms_29 ⟨Nat.le_of_ble_eq_true rfl, Nat.le_of_ble_eq_true rfl⟩) hS hA hP (fun r5 u5 H locs hw5 hP hS => ?_)
      have hw5 : ((r5.toInt = -9 ∧ ¬ (0 ≤ w1.toInt ∧ w1.toInt < (i 111).toInt)) ∨ (0 ≤ r5.toInt ∧ r5.toInt ≤ 5 ∧ 0 ≤ w1.toInt ∧ w1.toInt < (i 111).toInt)) := hw5
      refine lv_if_ne (tgt := 46) hx hb dX11_refuseRooms_32 (by decide +kernel) (fun c6 => ?_) (fun c6 => ?_)
      · have f6 := mt (ti_eq (a := r5.toInt) (b := 0) rfl (by decide +kernel)).mpr c6
        refine lv_aload_n hx hb dX11_refuseRooms_46 rfl (lv_at hl 0 rfl) ?_
        refine lv_iconst (v := 3) hx hb dX11_refuseRooms_47 (by decide +kernel) ?_
        refine al_calli (va_runV (As := [.int 3]) (rest := []) ⟨hx, hb, hml, hown, hts⟩ (x_X11_answerFinding l D H.size sk a t i q c d 3 hI (show 1 ≤ 3 ∧ 3 ≤ 6 from by decide +kernel)) (cwV 1 hts gm_X11_refuseRooms_X11_answerFinding_128 rfl rfl rfl (by decide +kernel) ⟨Nat.le_of_ble_eq_true rfl, Nat.le_of_ble_eq_true rfl⟩) (yB_V hN (xZ_k hZ hS hA) (xZ_n hZ hD) hK hP hD (ci := 11) (q0 := 0) rfl rfl) rfl rfl hl.1 rfl (lv_room (Nat.le_of_ble_eq_true rfl)) dX11_refuseRooms_48 ⟨Nat.le_of_ble_eq_true rfl, Nat.le_of_ble_eq_true rfl⟩) hS hA hP hD (fun r7 u7 H locs hw7 hP hD hS => ?_)
        obtain ⟨i7, q7, c7, d7⟩ := u7
        have hw7 : r7 = (-3) ∧ xInv i7 c7 ∧ (∀ k, k ∉ ([102] : List Nat) → i7 k = i k) ∧ (∀ k, k ∉ ([101] : List Nat) → c7 k = c k) := hw7
        obtain ⟨hw7, hI, hei7, hec7⟩ := hw7
        have hfi : ∀ k, k ∉ ([102] : List Nat) → i7 k = i k := fr_z hfi hei7 (by decide +kernel) (by decide +kernel)
        have hfc : ∀ k, k ∉ ([101] : List Nat) → c7 k = c k := fr_z hfc hec7 (by decide +kernel) (by decide +kernel)
        have hw7 : r7 = (-3) := hw7
        subst hw7
        exact rw_iret (i7, q7, c7, d7) hx hb hr hlocks hS (hK.sub (tys' := []) [] rfl) hP hD dX11_refuseRooms_51 ⟨(show (((-3) : Int32).toInt = 0 ∧ 0 ≤ w1.toInt ∧ w1.toInt < (i 111).toInt ∧ 0 ≤ w2.toInt ∧ w2.toInt < (i 111).toInt) ∨ ((-3) : Int32).toInt = -1 ∨ ((-3) : Int32).toInt = -3 from by have h9 : ((-3) : Int32).toInt = -3 := (by decide +kernel); omega), hI, fr_w hfi (by decide +kernel), fr_w hfc (by decide +kernel)⟩
      · have f6 := (ti_eq (a := r5.toInt) (b := 0) rfl (by decide +kernel)).mp c6
        refine lv_aload_n hx hb dX11_refuseRooms_35 rfl (lv_at hl 0 rfl) ?_
        refine xgT_X_world hx hb hts (fun _ h => List.mem_cons_of_mem _ (List.mem_append_left _ (List.mem_append_right _ h))) hown hK hP (hts (.fieldLink RX11 10 "TalePlay" "world" "LTalePlay$World;") (List.mem_cons_of_mem _ (List.mem_append_left _ (List.mem_append_left _ (List.mem_append_left _ (List.mem_of_getElem? (i := 0) rfl)))))) dX11_refuseRooms_36 ?_
        refine lv_iload_n hx hb dX11_refuseRooms_39 rfl (lv_at hl 2 rfl) ?_
        refine ro_calli (va_runV (As := [.int w2]) (rest := []) ⟨hx, hb, hml, hown, hts⟩ (x_X10_sortOf l D H.size .null a t i q c d w2 hI ) (cwV 1 hts gm_X11_refuseRooms_X10_sortOf_125 rfl rfl rfl (by decide +kernel) ⟨Nat.le_of_ble_eq_true rfl, Nat.le_of_ble_eq_true rfl⟩) (yA_V hN (xZ_k hZ hS hA) (xkT_W hK) (xuT_W (sk := sk) hP) (ci := 10) (q0 := 0) rfl rfl) rfl rfl hl.1 rfl (lv_room (Nat.le_of_ble_eq_true rfl)) dX11_refuseRooms_40 ⟨Nat.le_of_ble_eq_true rfl, Nat.le_of_ble_eq_true rfl⟩) hS hA hP (fun r8 u8 H locs hw8 hP hS => ?_)
        have hw8 : ((r8.toInt = -9 ∧ ¬ (0 ≤ w2.toInt ∧ w2.toInt < (i 111).toInt)) ∨ (0 ≤ r8.toInt ∧ r8.toInt ≤ 5 ∧ 0 ≤ w2.toInt ∧ w2.toInt < (i 111).toInt)) := hw8
        refine lv_if_eq (tgt := 52) hx hb dX11_refuseRooms_43 (by decide +kernel) (fun c9 => ?_) (fun c9 => ?_)
        · have f9 := (ti_eq (a := r8.toInt) (b := 0) rfl (by decide +kernel)).mp c9
          refine lv_iconst (v := 0) hx hb dX11_refuseRooms_52 (by decide +kernel) ?_
          exact rw_iret (i, q, c, d) hx hb hr hlocks hS (hK.sub (tys' := []) [] rfl) hP hD dX11_refuseRooms_53 ⟨(show ((0 : Int32).toInt = 0 ∧ 0 ≤ w1.toInt ∧ w1.toInt < (i 111).toInt ∧ 0 ≤ w2.toInt ∧ w2.toInt < (i 111).toInt) ∨ (0 : Int32).toInt = -1 ∨ (0 : Int32).toInt = -3 from by have h9 : (0 : Int32).toInt = 0 := (by decide +kernel); omega), hI, fr_w hfi (by decide +kernel), fr_w hfc (by decide +kernel)⟩
        · have f9 := mt (ti_eq (a := r8.toInt) (b := 0) rfl (by decide +kernel)).mpr c9
          refine lv_aload_n hx hb dX11_refuseRooms_46 rfl (lv_at hl 0 rfl) ?_
          refine lv_iconst (v := 3) hx hb dX11_refuseRooms_47 (by decide +kernel) ?_
          refine al_calli (va_runV (As := [.int 3]) (rest := []) ⟨hx, hb, hml, hown, hts⟩ (x_X11_answerFinding l D H.size sk a t i q c d 3 hI (show 1 ≤ 3 ∧ 3 ≤ 6 from by decide +kernel)) (cwV 1 hts gm_X11_refuseRooms_X11_answerFinding_128 rfl rfl rfl (by decide +kernel) ⟨Nat.le_of_ble_eq_true rfl, Nat.le_of_ble_eq_true rfl⟩) (yB_V hN (xZ_k hZ hS hA) (xZ_n hZ hD) hK hP hD (ci := 11) (q0 := 0) rfl rfl) rfl rfl hl.1 rfl (lv_room (Nat.le_of_ble_eq_true rfl)) dX11_refuseRooms_48 ⟨Nat.le_of_ble_eq_true rfl, Nat.le_of_ble_eq_true rfl⟩) hS hA hP hD (fun r10 u10 H locs hw10 hP hD hS => ?_)
          obtain ⟨i10, q10, c10, d10⟩ := u10
          have hw10 : r10 = (-3) ∧ xInv i10 c10 ∧ (∀ k, k ∉ ([102] : List Nat) → i10 k = i k) ∧ (∀ k, k ∉ ([101] : List Nat) → c10 k = c k) := hw10
          obtain ⟨hw10, hI, hei10, hec10⟩ := hw10
          have hfi : ∀ k, k ∉ ([102] : List Nat) → i10 k = i k := fr_z hfi hei10 (by decide +kernel) (by decide +kernel)
          have hfc : ∀ k, k ∉ ([101] : List Nat) → c10 k = c k := fr_z hfc hec10 (by decide +kernel) (by decide +kernel)
          have hw10 : r10 = (-3) := hw10
          subst hw10
          exact rw_iret (i10, q10, c10, d10) hx hb hr hlocks hS (hK.sub (tys' := []) [] rfl) hP hD dX11_refuseRooms_51 ⟨(show (((-3) : Int32).toInt = 0 ∧ 0 ≤ w1.toInt ∧ w1.toInt < (i 111).toInt ∧ 0 ≤ w2.toInt ∧ w2.toInt < (i 111).toInt) ∨ ((-3) : Int32).toInt = -1 ∨ ((-3) : Int32).toInt = -3 from by have h9 : ((-3) : Int32).toInt = -3 := (by decide +kernel); omega), hI, fr_w hfi (by decide +kernel), fr_w hfc (by decide +kernel)⟩
    · have f4 := fl_f hw3 c4
      refine lv_iconst (v := (-1)) hx hb dX11_refuseRooms_22 (by decide +kernel) ?_
      exact rw_iret (i, q, c, d) hx hb hr hlocks hS (hK.sub (tys' := []) [] rfl) hP hD dX11_refuseRooms_23 ⟨(show (((-1) : Int32).toInt = 0 ∧ 0 ≤ w1.toInt ∧ w1.toInt < (i 111).toInt ∧ 0 ≤ w2.toInt ∧ w2.toInt < (i 111).toInt) ∨ ((-1) : Int32).toInt = -1 ∨ ((-1) : Int32).toInt = -3 from by have h9 : ((-1) : Int32).toInt = -1 := (by decide +kernel); omega), hI, fr_w hfi (by decide +kernel), fr_w hfc (by decide +kernel)⟩

def wm_X11_refuseItem : List Cond := .code yX11_refuseItem cX11_refuseItem 4 (some .int) :: ((([.fieldLink RX11 10 "TalePlay" "world" "LTalePlay$World;", .methodLink RX11 109 yX10_hasObject, .instanceMethod yX10_hasObject, .selects RX10 yX10_hasObject yX10_hasObject, .initialized RX10, .code yX10_hasObject cX10_hasObject 2 (some .boolean), .fieldLink RX10 37 "TalePlay$World" "objects" "I", .methodLink RX11 91 yX11_isBelow, .static yX11_isBelow, .initialized RX11, .code yX11_isBelow cX11_isBelow 2 (some .boolean), .fieldLink RX11 53 "TalePlay" "lines" "LTalePlay$Lines;", .fieldLink RX11 322 "TalePlay$Lines" "sorts" "[I", .methodLink RX11 319 yX4_isOther, .instanceMethod yX4_isOther, .selects RX4 yX4_isOther yX4_isOther] : List Cond) ++ ([.initialized RX4, .code yX4_isOther cX4_isOther 3 (some .boolean), .fieldLink RX4 9 "TalePlay$Lines" "sorts" "[I", .fieldLink RX11 373 "TalePlay$Lines" "lengths" "[I", .methodLink RX11 128 yX11_answerFinding, .instanceMethod yX11_answerFinding, .selects RX11 yX11_answerFinding yX11_answerFinding, .code yX11_answerFinding cX11_answerFinding 2 (some .int), .fieldLink RX11 72 "TalePlay" "latestFinding" "I", .fieldLink RX11 68 "TalePlay" "findingCounts" "[I"] : List Cond)) ++ wsX110 ++ wsX100 ++ wsX40)
set_option maxRecDepth 20000 in
theorem gm_X11_refuseItem_X10_hasObject_109 : GoodIn wm_X11_refuseItem (wsV RX11 109 RX10 yX10_hasObject wm_X10_hasObject) := goodIn_w (List.forall_mem_append.mpr ⟨List.forall_mem_cons.mpr ⟨List.mem_cons_of_mem _ (List.mem_append_left _ (List.mem_append_left _ (List.mem_append_left _ (List.mem_append_left _ (List.mem_of_getElem? (i := 1) rfl))))), List.forall_mem_cons.mpr ⟨List.mem_cons_of_mem _ (List.mem_append_left _ (List.mem_append_left _ (List.mem_append_left _ (List.mem_append_left _ (List.mem_of_getElem? (i := 2) rfl))))), List.forall_mem_cons.mpr ⟨List.mem_cons_of_mem _ (List.mem_append_left _ (List.mem_append_left _ (List.mem_append_left _ (List.mem_append_left _ (List.mem_of_getElem? (i := 3) rfl))))), List.forall_mem_cons.mpr ⟨List.mem_cons_of_mem _ (List.mem_append_left _ (List.mem_append_left _ (List.mem_append_left _ (List.mem_append_left _ (List.mem_of_getElem? (i := 4) rfl))))), (fun _ h => absurd h List.not_mem_nil)⟩⟩⟩⟩, List.forall_mem_cons.mpr ⟨List.mem_cons_of_mem _ (List.mem_append_left _ (List.mem_append_left _ (List.mem_append_left _ (List.mem_append_left _ (List.mem_of_getElem? (i := 5) rfl))))), List.forall_mem_append.mpr ⟨List.forall_mem_cons.mpr ⟨List.mem_cons_of_mem _ (List.mem_append_left _ (List.mem_append_left _ (List.mem_append_left _ (List.mem_append_left _ (List.mem_of_getElem? (i := 6) rfl))))), (fun _ h => absurd h List.not_mem_nil)⟩, (fun _ h => List.mem_cons_of_mem _ (List.mem_append_left _ (List.mem_append_right _ h)))⟩⟩⟩) (by decide +kernel)
set_option maxRecDepth 20000 in
theorem gm_X11_refuseItem_X11_isBelow_91 : GoodIn wm_X11_refuseItem (va_wsS RX11 91 yX11_isBelow wm_X11_isBelow) := goodIn_w (List.forall_mem_append.mpr ⟨List.forall_mem_cons.mpr ⟨List.mem_cons_of_mem _ (List.mem_append_left _ (List.mem_append_left _ (List.mem_append_left _ (List.mem_append_left _ (List.mem_of_getElem? (i := 7) rfl))))), List.forall_mem_cons.mpr ⟨List.mem_cons_of_mem _ (List.mem_append_left _ (List.mem_append_left _ (List.mem_append_left _ (List.mem_append_left _ (List.mem_of_getElem? (i := 8) rfl))))), List.forall_mem_cons.mpr ⟨List.mem_cons_of_mem _ (List.mem_append_left _ (List.mem_append_left _ (List.mem_append_left _ (List.mem_append_left _ (List.mem_of_getElem? (i := 9) rfl))))), (fun _ h => absurd h List.not_mem_nil)⟩⟩⟩, List.forall_mem_cons.mpr ⟨List.mem_cons_of_mem _ (List.mem_append_left _ (List.mem_append_left _ (List.mem_append_left _ (List.mem_append_left _ (List.mem_of_getElem? (i := 10) rfl))))), (fun _ h => absurd h List.not_mem_nil)⟩⟩) (by decide +kernel)
set_option maxRecDepth 20000 in
theorem gm_X11_refuseItem_X4_isOther_319 : GoodIn wm_X11_refuseItem (wsV RX11 319 RX4 yX4_isOther wm_X4_isOther) := goodIn_w (List.forall_mem_append.mpr ⟨List.forall_mem_cons.mpr ⟨List.mem_cons_of_mem _ (List.mem_append_left _ (List.mem_append_left _ (List.mem_append_left _ (List.mem_append_left _ (List.mem_of_getElem? (i := 13) rfl))))), List.forall_mem_cons.mpr ⟨List.mem_cons_of_mem _ (List.mem_append_left _ (List.mem_append_left _ (List.mem_append_left _ (List.mem_append_left _ (List.mem_of_getElem? (i := 14) rfl))))), List.forall_mem_cons.mpr ⟨List.mem_cons_of_mem _ (List.mem_append_left _ (List.mem_append_left _ (List.mem_append_left _ (List.mem_append_left _ (List.mem_of_getElem? (i := 15) rfl))))), List.forall_mem_cons.mpr ⟨List.mem_cons_of_mem _ (List.mem_append_left _ (List.mem_append_left _ (List.mem_append_left _ (List.mem_append_right _ (List.mem_of_getElem? (i := 0) rfl))))), (fun _ h => absurd h List.not_mem_nil)⟩⟩⟩⟩, List.forall_mem_cons.mpr ⟨List.mem_cons_of_mem _ (List.mem_append_left _ (List.mem_append_left _ (List.mem_append_left _ (List.mem_append_right _ (List.mem_of_getElem? (i := 1) rfl))))), List.forall_mem_append.mpr ⟨List.forall_mem_cons.mpr ⟨List.mem_cons_of_mem _ (List.mem_append_left _ (List.mem_append_left _ (List.mem_append_left _ (List.mem_append_right _ (List.mem_of_getElem? (i := 2) rfl))))), (fun _ h => absurd h List.not_mem_nil)⟩, (fun _ h => List.mem_cons_of_mem _ (List.mem_append_right _ h))⟩⟩⟩) (by decide +kernel)
set_option maxRecDepth 20000 in
theorem gm_X11_refuseItem_X11_answerFinding_128 : GoodIn wm_X11_refuseItem (wsV RX11 128 RX11 yX11_answerFinding wm_X11_answerFinding) := goodIn_w (List.forall_mem_append.mpr ⟨List.forall_mem_cons.mpr ⟨List.mem_cons_of_mem _ (List.mem_append_left _ (List.mem_append_left _ (List.mem_append_left _ (List.mem_append_right _ (List.mem_of_getElem? (i := 4) rfl))))), List.forall_mem_cons.mpr ⟨List.mem_cons_of_mem _ (List.mem_append_left _ (List.mem_append_left _ (List.mem_append_left _ (List.mem_append_right _ (List.mem_of_getElem? (i := 5) rfl))))), List.forall_mem_cons.mpr ⟨List.mem_cons_of_mem _ (List.mem_append_left _ (List.mem_append_left _ (List.mem_append_left _ (List.mem_append_right _ (List.mem_of_getElem? (i := 6) rfl))))), List.forall_mem_cons.mpr ⟨List.mem_cons_of_mem _ (List.mem_append_left _ (List.mem_append_left _ (List.mem_append_left _ (List.mem_append_left _ (List.mem_of_getElem? (i := 9) rfl))))), (fun _ h => absurd h List.not_mem_nil)⟩⟩⟩⟩, List.forall_mem_cons.mpr ⟨List.mem_cons_of_mem _ (List.mem_append_left _ (List.mem_append_left _ (List.mem_append_left _ (List.mem_append_right _ (List.mem_of_getElem? (i := 7) rfl))))), List.forall_mem_append.mpr ⟨List.forall_mem_cons.mpr ⟨List.mem_cons_of_mem _ (List.mem_append_left _ (List.mem_append_left _ (List.mem_append_left _ (List.mem_append_right _ (List.mem_of_getElem? (i := 8) rfl))))), List.forall_mem_cons.mpr ⟨List.mem_cons_of_mem _ (List.mem_append_left _ (List.mem_append_left _ (List.mem_append_left _ (List.mem_append_right _ (List.mem_of_getElem? (i := 9) rfl))))), (fun _ h => absurd h List.not_mem_nil)⟩⟩, (fun _ h => List.mem_cons_of_mem _ (List.mem_append_left _ (List.mem_append_left _ (List.mem_append_right _ h))))⟩⟩⟩) (by decide +kernel)
set_option maxHeartbeats 4000000 in
set_option maxRecDepth 100000 in
theorem x_X11_refuseItem (l : Launch) (D : va_G) (sz : Nat) (sk : Value) (a : Nat → Nat) (t : Nat → ClassId) (i : Nat → Int32) (q : Int64) (c : Nat → Nat → Int32) (d : Nat → Nat → Int64) (w : Int32) (s1 : Int32) (n1 : Int32) (hI : xInv i c) : Met l yX11_refuseItem wm_X11_refuseItem ({ frames := 1, cells := 0, slots := 0, locals := 22 }) (va_Pc [.ref (a 100), .int w, .int s1, .int n1] (yB (a 186) D sz (xwT sk a t i q c d) (xtT t))) (va_Qi (fun (r : Int32) (u : MS) => ((r.toInt = 0 ∧ 0 ≤ w.toInt ∧ w.toInt < (i 111).toInt ∧ 0 ≤ n1.toInt ∧ n1.toInt ≤ 11) ∨ r.toInt = -1 ∨ r.toInt = -3) ∧ xInv u.1 u.2.2.1 ∧ (∀ k, k ∉ ([102] : List Nat) → u.1 k = i k) ∧ (∀ k, k ∉ ([101] : List Nat) → u.2.2.1 k = c k)) (oC D (va_A (xwT sk a t i q c d) sz) (fun u : MS => xwT sk a t u.1 u.2.1 u.2.2.1 u.2.2.2) (fun _ => [])) (va_A (xwT sk a t i q c d) sz)) 0 0 (va_A (xwT sk a t i q c d) sz) := by
  refine Met.ofW (cc := cX11_refuseItem) (maxL := 4) (ret := (some .int)) (by decide +kernel) rfl ?_
  intro p e s m args below meth cd s₁ B hml hv
  obtain ⟨rfl, ⟨hsz, hP, hK, hD0⟩, hN, hZ, hBW⟩ := hv
  have hx := B.exec
  have hb := B.bytes
  have hr := B.returns
  have hts := atoms_spec (ws := wm_X11_refuseItem) B.pre
  have hown : s.vm.findClass RX11 = some m.cls := findClass_of_methodNamed B.named
  have hlocks := B.notSynchronized
  subst hsz
  have hD := hD0.self (sz := s.heap.size)
  have hZ := xZ_A hZ hP hBW
  generalize hAe : va_A (xwT sk a t i q c d) s.heap.size = A at hD hZ ⊢
  have hA : ∀ q : Nat, s.heap.size ≤ q → A q := fun q h => by rw [← hAe]; exact Or.inr h
  have hS : va_S A s.heap s.heap [] := va_S.rf
  have hfi : ∀ k, k ∉ ([] : List Nat) → i k = i k := fun _ _ => rfl
  have hfc : ∀ k, k ∉ ([] : List Nat) → c k = c k := fun _ _ => rfl
  have hl := lv_entry ([.ref (a 100), .int w, .int s1, .int n1]) (n := 4) (Nat.le_of_ble_eq_true rfl)
  rw [lg_entry_eq]
  generalize (lg_sl ([.ref (a 100), .int w, .int s1, .int n1]) ++ List.replicate (4 - (lg_sl ([.ref (a 100), .int w, .int s1, .int n1])).length) Slot.unset).toArray = ls at hl ⊢
  have hl : lv_has ls 4 [(0, .ref (a 100)), (1, .int w), (2, .int s1), (3, .int n1)] := hl
  refine lv_aload_n hx hb dX11_refuseItem_0 rfl (lv_at hl 0 rfl) ?_
  refine xgT_X_world hx hb hts (fun _ h => List.mem_cons_of_mem _ (List.mem_append_left _ (List.mem_append_left _ (List.mem_append_right _ h)))) hown hK hP (hts (.fieldLink RX11 10 "TalePlay" "world" "LTalePlay$World;") (List.mem_cons_of_mem _ (List.mem_append_left _ (List.mem_append_left _ (List.mem_append_left _ (List.mem_append_left _ (List.mem_of_getElem? (i := 0) rfl))))))) dX11_refuseItem_1 ?_
  refine lv_iload_n hx hb dX11_refuseItem_4 rfl (lv_at hl 1 rfl) ?_
  have rb111_i : 0 ≤ (i 111).toInt ∧ (i 111).toInt ≤ 30 := hI.1 111
  refine ro_calli (va_runV (As := [.int w]) (rest := []) ⟨hx, hb, hml, hown, hts⟩ (x_X10_hasObject l D s.heap.size .null a t i q c d w hI ) (cwV 1 hts gm_X11_refuseItem_X10_hasObject_109 rfl rfl rfl (by decide +kernel) ⟨Nat.le_of_ble_eq_true rfl, Nat.le_of_ble_eq_true rfl⟩) (yA_V hN (xZ_k hZ hS hA) (xkT_W hK) (xuT_W (sk := sk) hP) (ci := 10) (q0 := 0) rfl rfl) rfl rfl hl.1 rfl (lv_room (Nat.le_of_ble_eq_true rfl)) dX11_refuseItem_5 ⟨Nat.le_of_ble_eq_true rfl, Nat.le_of_ble_eq_true rfl⟩) hS hA hP (fun r1 u1 H locs hw1 hP hS => ?_)
  have hw1 : r1 = if (0 ≤ w.toInt ∧ w.toInt < (i 111).toInt) then 1 else 0 := hw1
  refine lv_if_eq (tgt := 19) hx hb dX11_refuseItem_8 (by decide +kernel) (fun c2 => ?_) (fun c2 => ?_)
  · have f2 := fl_f hw1 c2
    refine lv_iconst (v := (-1)) hx hb dX11_refuseItem_19 (by decide +kernel) ?_
    exact rw_iret (i, q, c, d) hx hb hr hlocks hS (hK.sub (tys' := []) [] rfl) hP hD dX11_refuseItem_20 ⟨(show (((-1) : Int32).toInt = 0 ∧ 0 ≤ w.toInt ∧ w.toInt < (i 111).toInt ∧ 0 ≤ n1.toInt ∧ n1.toInt ≤ 11) ∨ ((-1) : Int32).toInt = -1 ∨ ((-1) : Int32).toInt = -3 from by have h9 : ((-1) : Int32).toInt = -1 := (by decide +kernel); omega), hI, fr_w hfi (by decide +kernel), fr_w hfc (by decide +kernel)⟩
  · have f2 := fl_t hw1 c2
    refine lv_iload_n hx hb dX11_refuseItem_11 rfl (lv_at hl 2 rfl) ?_
    refine lv_iconst (v := 4) hx hb dX11_refuseItem_12 (by decide +kernel) ?_
    have hPc := hP.sub (ws' := []) [] rfl
    have hKc := hK.sub (tys' := []) [] rfl
    refine ro_calli (va_runS (As := [.int s1, .int 4]) (rest := []) ⟨hx, hb, hml, hown, hts⟩ (c_X11_isBelow l D H.size s1 4 s1.toInt 4 rfl (by decide +kernel)) (va_cwS 2 hts gm_X11_refuseItem_X11_isBelow_91 rfl rfl rfl (by decide +kernel) ⟨Nat.le_of_ble_eq_true rfl, Nat.le_of_ble_eq_true rfl⟩) (pA_S hKc hPc) rfl rfl hl.1 rfl (lv_room (Nat.le_of_ble_eq_true rfl)) dX11_refuseItem_13 ⟨Nat.le_of_ble_eq_true rfl, Nat.le_of_ble_eq_true rfl⟩) hS hA hP (fun r4 u4 H locs hw4 hP hS => ?_)
    have hw4 : r4 = if (0 ≤ s1.toInt ∧ s1.toInt < 4) then 1 else 0 := hw4
    refine lv_if_ne (tgt := 21) hx hb dX11_refuseItem_16 (by decide +kernel) (fun c5 => ?_) (fun c5 => ?_)
    · have f5 := fl_t hw4 c5
      refine lv_aload_n hx hb dX11_refuseItem_21 rfl (lv_at hl 0 rfl) ?_
      refine xgT_X_lines hx hb hts (fun _ h => List.mem_cons_of_mem _ (List.mem_append_left _ (List.mem_append_left _ (List.mem_append_right _ h)))) hown hK hP (hts (.fieldLink RX11 53 "TalePlay" "lines" "LTalePlay$Lines;") (List.mem_cons_of_mem _ (List.mem_append_left _ (List.mem_append_left _ (List.mem_append_left _ (List.mem_append_left _ (List.mem_of_getElem? (i := 11) rfl))))))) dX11_refuseItem_22 ?_
      refine xgT_L_sorts hx hb hts (fun _ h => List.mem_cons_of_mem _ (List.mem_append_right _ h)) hown hK hP (hts (.fieldLink RX11 322 "TalePlay$Lines" "sorts" "[I") (List.mem_cons_of_mem _ (List.mem_append_left _ (List.mem_append_left _ (List.mem_append_left _ (List.mem_append_left _ (List.mem_of_getElem? (i := 12) rfl))))))) dX11_refuseItem_25 ?_
      refine lv_iload_n hx hb dX11_refuseItem_28 rfl (lv_at hl 1 rfl) ?_
      refine xlT_158 hx hb hK hP (vp_in_iff.mpr (by have h9 : w.toInt = w.toInt := rfl; omega)) dX11_refuseItem_29 (fun x6 ex6 => ?_)
      have rx6 : x6.toInt = -9 ∨ (0 ≤ x6.toInt ∧ x6.toInt ≤ 3) := by rw [ex6]; exact hI.2 158 _
      refine lv_bipush (v := (-9)) hx hb dX11_refuseItem_30 (by decide +kernel) ?_
      refine lv_icmp_ne (tgt := 41) hx hb dX11_refuseItem_32 (by decide +kernel) (fun c7 => ?_) (fun c7 => ?_)
      · have f7 := mt (ti_eq (a := x6.toInt) (b := (-9)) rfl (by decide +kernel)).mpr c7
        refine lv_aload_n hx hb dX11_refuseItem_41 rfl (lv_at hl 0 rfl) ?_
        refine xgT_X_lines hx hb hts (fun _ h => List.mem_cons_of_mem _ (List.mem_append_left _ (List.mem_append_left _ (List.mem_append_right _ h)))) hown hK hP (hts (.fieldLink RX11 53 "TalePlay" "lines" "LTalePlay$Lines;") (List.mem_cons_of_mem _ (List.mem_append_left _ (List.mem_append_left _ (List.mem_append_left _ (List.mem_append_left _ (List.mem_of_getElem? (i := 11) rfl))))))) dX11_refuseItem_42 ?_
        refine lv_iload_n hx hb dX11_refuseItem_45 rfl (lv_at hl 1 rfl) ?_
        refine lv_iload_n hx hb dX11_refuseItem_46 rfl (lv_at hl 2 rfl) ?_
        refine ro_calli (va_runV (As := [.int w, .int s1]) (rest := []) ⟨hx, hb, hml, hown, hts⟩ (x_X4_isOther l D H.size sk a t i q c d w s1 hI (show 0 ≤ w.toInt ∧ w.toInt ≤ 29 from by omega)) (cwV 2 hts gm_X11_refuseItem_X4_isOther_319 rfl rfl rfl (by decide +kernel) ⟨Nat.le_of_ble_eq_true rfl, Nat.le_of_ble_eq_true rfl⟩) (yA_V hN (xZ_k hZ hS hA) hK hP (ci := 4) (q0 := 43) rfl rfl) rfl rfl hl.1 rfl (lv_room (Nat.le_of_ble_eq_true rfl)) dX11_refuseItem_47 ⟨Nat.le_of_ble_eq_true rfl, Nat.le_of_ble_eq_true rfl⟩) hS hA hP (fun r8 u8 H locs hw8 hP hS => ?_)
        have hw8 : (0 ≤ r8.toInt ∧ r8.toInt ≤ 1) := hw8
        refine lv_if_eq (tgt := 59) hx hb dX11_refuseItem_50 (by decide +kernel) (fun c9 => ?_) (fun c9 => ?_)
        · have f9 := (ti_eq (a := r8.toInt) (b := 0) rfl (by decide +kernel)).mp c9
          refine lv_iload_n hx hb dX11_refuseItem_59 rfl (lv_at hl 3 rfl) ?_
          refine lv_aload_n hx hb dX11_refuseItem_60 rfl (lv_at hl 0 rfl) ?_
          refine xgT_X_lines hx hb hts (fun _ h => List.mem_cons_of_mem _ (List.mem_append_left _ (List.mem_append_left _ (List.mem_append_right _ h)))) hown hK hP (hts (.fieldLink RX11 53 "TalePlay" "lines" "LTalePlay$Lines;") (List.mem_cons_of_mem _ (List.mem_append_left _ (List.mem_append_left _ (List.mem_append_left _ (List.mem_append_left _ (List.mem_of_getElem? (i := 11) rfl))))))) dX11_refuseItem_61 ?_
          refine xgT_L_lengths hx hb hts (fun _ h => List.mem_cons_of_mem _ (List.mem_append_right _ h)) hown hK hP (hts (.fieldLink RX11 373 "TalePlay$Lines" "lengths" "[I") (List.mem_cons_of_mem _ (List.mem_append_left _ (List.mem_append_left _ (List.mem_append_left _ (List.mem_append_right _ (List.mem_of_getElem? (i := 3) rfl))))))) dX11_refuseItem_64 ?_
          refine lv_iload_n hx hb dX11_refuseItem_67 rfl (lv_at hl 1 rfl) ?_
          refine xlT_159 hx hb hK hP (vp_in_iff.mpr (by have h9 : w.toInt = w.toInt := rfl; omega)) dX11_refuseItem_68 (fun x10 ex10 => ?_)
          have rx10 : 0 ≤ x10.toInt ∧ x10.toInt ≤ 12 := by rw [ex10]; exact hI.2 159 _
          have hPc := hP.sub (ws' := []) [] rfl
          have hKc := hK.sub (tys' := []) [] rfl
          refine ro_calli (va_runS (As := [.int n1, .int x10]) (rest := []) ⟨hx, hb, hml, hown, hts⟩ (c_X11_isBelow l D H.size n1 x10 n1.toInt x10.toInt rfl rfl) (va_cwS 2 hts gm_X11_refuseItem_X11_isBelow_91 rfl rfl rfl (by decide +kernel) ⟨Nat.le_of_ble_eq_true rfl, Nat.le_of_ble_eq_true rfl⟩) (pA_S hKc hPc) rfl rfl hl.1 rfl (lv_room (Nat.le_of_ble_eq_true rfl)) dX11_refuseItem_69 ⟨Nat.le_of_ble_eq_true rfl, Nat.le_of_ble_eq_true rfl⟩) hS hA hP (fun r12 u12 H locs hw12 hP hS => ?_)
          have hw12 : r12 = if (0 ≤ n1.toInt ∧ n1.toInt < x10.toInt) then 1 else 0 := hw12
          refine lv_if_eq (tgt := 79) hx hb dX11_refuseItem_72 (by decide +kernel) (fun c13 => ?_) (fun c13 => ?_)
          · have f13 := fl_f hw12 c13
            refine lv_aload_n hx hb dX11_refuseItem_79 rfl (lv_at hl 0 rfl) ?_
            refine lv_iconst (v := 2) hx hb dX11_refuseItem_80 (by decide +kernel) ?_
            refine al_calli (va_runV (As := [.int 2]) (rest := []) ⟨hx, hb, hml, hown, hts⟩ (x_X11_answerFinding l D H.size sk a t i q c d 2 hI (show 1 ≤ 2 ∧ 2 ≤ 6 from by decide +kernel)) (cwV 1 hts gm_X11_refuseItem_X11_answerFinding_128 rfl rfl rfl (by decide +kernel) ⟨Nat.le_of_ble_eq_true rfl, Nat.le_of_ble_eq_true rfl⟩) (yB_V hN (xZ_k hZ hS hA) (xZ_n hZ hD) hK hP hD (ci := 11) (q0 := 0) rfl rfl) rfl rfl hl.1 rfl (lv_room (Nat.le_of_ble_eq_true rfl)) dX11_refuseItem_81 ⟨Nat.le_of_ble_eq_true rfl, Nat.le_of_ble_eq_true rfl⟩) hS hA hP hD (fun r14 u14 H locs hw14 hP hD hS => ?_)
            obtain ⟨i14, q14, c14, d14⟩ := u14
            have hw14 : r14 = (-3) ∧ xInv i14 c14 ∧ (∀ k, k ∉ ([102] : List Nat) → i14 k = i k) ∧ (∀ k, k ∉ ([101] : List Nat) → c14 k = c k) := hw14
            obtain ⟨hw14, hI, hei14, hec14⟩ := hw14
            have hfi : ∀ k, k ∉ ([102] : List Nat) → i14 k = i k := fr_z hfi hei14 (by decide +kernel) (by decide +kernel)
            have hfc : ∀ k, k ∉ ([101] : List Nat) → c14 k = c k := fr_z hfc hec14 (by decide +kernel) (by decide +kernel)
            have hw14 : r14 = (-3) := hw14
            subst hw14
            exact rw_iret (i14, q14, c14, d14) hx hb hr hlocks hS (hK.sub (tys' := []) [] rfl) hP hD dX11_refuseItem_84 ⟨(show (((-3) : Int32).toInt = 0 ∧ 0 ≤ w.toInt ∧ w.toInt < (i 111).toInt ∧ 0 ≤ n1.toInt ∧ n1.toInt ≤ 11) ∨ ((-3) : Int32).toInt = -1 ∨ ((-3) : Int32).toInt = -3 from by have h9 : ((-3) : Int32).toInt = -3 := (by decide +kernel); omega), hI, fr_w hfi (by decide +kernel), fr_w hfc (by decide +kernel)⟩
          · have f13 := fl_t hw12 c13
            refine lv_iconst (v := 0) hx hb dX11_refuseItem_75 (by decide +kernel) ?_
            refine lv_goto (tgt := 84) hx hb dX11_refuseItem_76 (by decide +kernel) ?_
            exact rw_iret (i, q, c, d) hx hb hr hlocks hS (hK.sub (tys' := []) [] rfl) hP hD dX11_refuseItem_84 ⟨(show ((0 : Int32).toInt = 0 ∧ 0 ≤ w.toInt ∧ w.toInt < (i 111).toInt ∧ 0 ≤ n1.toInt ∧ n1.toInt ≤ 11) ∨ (0 : Int32).toInt = -1 ∨ (0 : Int32).toInt = -3 from by have h9 : (0 : Int32).toInt = 0 := (by decide +kernel); omega), hI, fr_w hfi (by decide +kernel), fr_w hfc (by decide +kernel)⟩
        · have f9 := mt (ti_eq (a := r8.toInt) (b := 0) rfl (by decide +kernel)).mpr c9
          refine lv_aload_n hx hb dX11_refuseItem_53 rfl (lv_at hl 0 rfl) ?_
          refine lv_iconst (v := 3) hx hb dX11_refuseItem_54 (by decide +kernel) ?_
          refine al_calli (va_runV (As := [.int 3]) (rest := []) ⟨hx, hb, hml, hown, hts⟩ (x_X11_answerFinding l D H.size sk a t i q c d 3 hI (show 1 ≤ 3 ∧ 3 ≤ 6 from by decide +kernel)) (cwV 1 hts gm_X11_refuseItem_X11_answerFinding_128 rfl rfl rfl (by decide +kernel) ⟨Nat.le_of_ble_eq_true rfl, Nat.le_of_ble_eq_true rfl⟩) (yB_V hN (xZ_k hZ hS hA) (xZ_n hZ hD) hK hP hD (ci := 11) (q0 := 0) rfl rfl) rfl rfl hl.1 rfl (lv_room (Nat.le_of_ble_eq_true rfl)) dX11_refuseItem_55 ⟨Nat.le_of_ble_eq_true rfl, Nat.le_of_ble_eq_true rfl⟩) hS hA hP hD (fun r15 u15 H locs hw15 hP hD hS => ?_)
          obtain ⟨i15, q15, c15, d15⟩ := u15
          have hw15 : r15 = (-3) ∧ xInv i15 c15 ∧ (∀ k, k ∉ ([102] : List Nat) → i15 k = i k) ∧ (∀ k, k ∉ ([101] : List Nat) → c15 k = c k) := hw15
          obtain ⟨hw15, hI, hei15, hec15⟩ := hw15
          have hfi : ∀ k, k ∉ ([102] : List Nat) → i15 k = i k := fr_z hfi hei15 (by decide +kernel) (by decide +kernel)
          have hfc : ∀ k, k ∉ ([101] : List Nat) → c15 k = c k := fr_z hfc hec15 (by decide +kernel) (by decide +kernel)
          have hw15 : r15 = (-3) := hw15
          subst hw15
          exact rw_iret (i15, q15, c15, d15) hx hb hr hlocks hS (hK.sub (tys' := []) [] rfl) hP hD dX11_refuseItem_58 ⟨(show (((-3) : Int32).toInt = 0 ∧ 0 ≤ w.toInt ∧ w.toInt < (i 111).toInt ∧ 0 ≤ n1.toInt ∧ n1.toInt ≤ 11) ∨ ((-3) : Int32).toInt = -1 ∨ ((-3) : Int32).toInt = -3 from by have h9 : ((-3) : Int32).toInt = -3 := (by decide +kernel); omega), hI, fr_w hfi (by decide +kernel), fr_w hfc (by decide +kernel)⟩
      · have f7 := (ti_eq (a := x6.toInt) (b := (-9)) rfl (by decide +kernel)).mp c7
        refine lv_aload_n hx hb dX11_refuseItem_35 rfl (lv_at hl 0 rfl) ?_
        refine lv_iconst (v := 1) hx hb dX11_refuseItem_36 (by decide +kernel) ?_
        refine al_calli (va_runV (As := [.int 1]) (rest := []) ⟨hx, hb, hml, hown, hts⟩ (x_X11_answerFinding l D H.size sk a t i q c d 1 hI (show 1 ≤ 1 ∧ 1 ≤ 6 from by decide +kernel)) (cwV 1 hts gm_X11_refuseItem_X11_answerFinding_128 rfl rfl rfl (by decide +kernel) ⟨Nat.le_of_ble_eq_true rfl, Nat.le_of_ble_eq_true rfl⟩) (yB_V hN (xZ_k hZ hS hA) (xZ_n hZ hD) hK hP hD (ci := 11) (q0 := 0) rfl rfl) rfl rfl hl.1 rfl (lv_room (Nat.le_of_ble_eq_true rfl)) dX11_refuseItem_37 ⟨Nat.le_of_ble_eq_true rfl, Nat.le_of_ble_eq_true rfl⟩) hS hA hP hD (fun r16 u16 H locs hw16 hP hD hS => ?_)
        obtain ⟨i16, q16, c16, d16⟩ := u16
        have hw16 : r16 = (-3) ∧ xInv i16 c16 ∧ (∀ k, k ∉ ([102] : List Nat) → i16 k = i k) ∧ (∀ k, k ∉ ([101] : List Nat) → c16 k = c k) := hw16
        obtain ⟨hw16, hI, hei16, hec16⟩ := hw16
        have hfi : ∀ k, k ∉ ([102] : List Nat) → i16 k = i k := fr_z hfi hei16 (by decide +kernel) (by decide +kernel)
        have hfc : ∀ k, k ∉ ([101] : List Nat) → c16 k = c k := fr_z hfc hec16 (by decide +kernel) (by decide +kernel)
        have hw16 : r16 = (-3) := hw16
        subst hw16
        exact rw_iret (i16, q16, c16, d16) hx hb hr hlocks hS (hK.sub (tys' := []) [] rfl) hP hD dX11_refuseItem_40 ⟨(show (((-3) : Int32).toInt = 0 ∧ 0 ≤ w.toInt ∧ w.toInt < (i 111).toInt ∧ 0 ≤ n1.toInt ∧ n1.toInt ≤ 11) ∨ ((-3) : Int32).toInt = -1 ∨ ((-3) : Int32).toInt = -3 from by have h9 : ((-3) : Int32).toInt = -3 := (by decide +kernel); omega), hI, fr_w hfi (by decide +kernel), fr_w hfc (by decide +kernel)⟩
    · have f5 := fl_f hw4 c5
      refine lv_iconst (v := (-1)) hx hb dX11_refuseItem_19 (by decide +kernel) ?_
      exact rw_iret (i, q, c, d) hx hb hr hlocks hS (hK.sub (tys' := []) [] rfl) hP hD dX11_refuseItem_20 ⟨(show (((-1) : Int32).toInt = 0 ∧ 0 ≤ w.toInt ∧ w.toInt < (i 111).toInt ∧ 0 ≤ n1.toInt ∧ n1.toInt ≤ 11) ∨ ((-1) : Int32).toInt = -1 ∨ ((-1) : Int32).toInt = -3 from by have h9 : ((-1) : Int32).toInt = -1 := (by decide +kernel); omega), hI, fr_w hfi (by decide +kernel), fr_w hfc (by decide +kernel)⟩

def wm_X11_asked : List Cond := .code yX11_asked cX11_asked 1 (some .long) :: (([.fieldLink RX11 76 "TalePlay" "told" "J"] : List Cond) ++ wsX110)
set_option maxHeartbeats 4000000 in
set_option maxRecDepth 100000 in
theorem x_X11_asked (l : Launch) (D : va_G) (sz : Nat) (sk : Value) (a : Nat → Nat) (t : Nat → ClassId) (i : Nat → Int32) (q : Int64) (c : Nat → Nat → Int32) (d : Nat → Nat → Int64) (hI : xInv i c) : Met l yX11_asked wm_X11_asked ({ frames := 0, cells := 0, slots := 0, locals := 0 }) (va_Pc [.ref (a 100)] (yA (a 186) D sz (xwT sk a t i q c d) (xtT t))) (va_Ql (fun (r : Int64) (_ : Unit) => True) oA (ro sz)) 0 0 (ro sz) := by
  refine Met.ofW (cc := cX11_asked) (maxL := 1) (ret := (some .long)) (by decide +kernel) rfl ?_
  intro p e s m args below meth cd s₁ B hml hv
  obtain ⟨rfl, ⟨hsz, hP, hK⟩, hN, hZ⟩ := hv
  have hx := B.exec
  have hb := B.bytes
  have hr := B.returns
  have hts := atoms_spec (ws := wm_X11_asked) B.pre
  have hown : s.vm.findClass RX11 = some m.cls := findClass_of_methodNamed B.named
  have hlocks := B.notSynchronized
  subst hsz
  have hA : ∀ q : Nat, s.heap.size ≤ q → ro s.heap.size q := fun _ h => h
  have hS : va_S (ro s.heap.size) s.heap s.heap [] := va_S.rf
  have hl := lv_entry ([.ref (a 100)]) (n := 1) (Nat.le_of_ble_eq_true rfl)
  rw [lg_entry_eq]
  generalize (lg_sl ([.ref (a 100)]) ++ List.replicate (1 - (lg_sl ([.ref (a 100)])).length) Slot.unset).toArray = ls at hl ⊢
  have hl : lv_has ls 1 [(0, .ref (a 100))] := hl
  refine lv_aload_n hx hb dX11_asked_0 rfl (lv_at hl 0 rfl) ?_
  refine xgT_X_told (v := q) rfl hx hb hts (fun _ h => List.mem_cons_of_mem _ (List.mem_append_right _ h)) hown hK hP (hts (.fieldLink RX11 76 "TalePlay" "told" "J") (List.mem_cons_of_mem _ (List.mem_append_left _ (List.mem_of_getElem? (i := 0) rfl)))) dX11_asked_1 ?_
  exact ro_lret hx hb hr hlocks hS dX11_asked_4 trivial

def wm_X11_trace : List Cond := .code yX11_trace cX11_trace 2 (some .int) :: (([.fieldLink RX11 37 "TalePlay" "bulks" "LTalePlay$Bulks;", .fieldLink RX11 139 "TalePlay$Bulks" "traced" "I", .methodLink RX11 91 yX11_isBelow, .static yX11_isBelow, .initialized RX11, .code yX11_isBelow cX11_isBelow 2 (some .boolean), .fieldLink RX11 142 "TalePlay$Bulks" "trace" "[I"] : List Cond) ++ wsX110 ++ wsX20)
set_option maxRecDepth 20000 in
theorem gm_X11_trace_X11_isBelow_91 : GoodIn wm_X11_trace (va_wsS RX11 91 yX11_isBelow wm_X11_isBelow) := goodIn_w (List.forall_mem_append.mpr ⟨List.forall_mem_cons.mpr ⟨List.mem_cons_of_mem _ (List.mem_append_left _ (List.mem_append_left _ (List.mem_of_getElem? (i := 2) rfl))), List.forall_mem_cons.mpr ⟨List.mem_cons_of_mem _ (List.mem_append_left _ (List.mem_append_left _ (List.mem_of_getElem? (i := 3) rfl))), List.forall_mem_cons.mpr ⟨List.mem_cons_of_mem _ (List.mem_append_left _ (List.mem_append_left _ (List.mem_of_getElem? (i := 4) rfl))), (fun _ h => absurd h List.not_mem_nil)⟩⟩⟩, List.forall_mem_cons.mpr ⟨List.mem_cons_of_mem _ (List.mem_append_left _ (List.mem_append_left _ (List.mem_of_getElem? (i := 5) rfl))), (fun _ h => absurd h List.not_mem_nil)⟩⟩) (by decide +kernel)
set_option maxHeartbeats 4000000 in
set_option maxRecDepth 100000 in
theorem x_X11_trace (l : Launch) (D : va_G) (sz : Nat) (sk : Value) (a : Nat → Nat) (t : Nat → ClassId) (i : Nat → Int32) (q : Int64) (c : Nat → Nat → Int32) (d : Nat → Nat → Int64) (w : Int32) (hI : xInv i c) : Met l yX11_trace wm_X11_trace ({ frames := 1, cells := 0, slots := 0, locals := 21 }) (va_Pc [.ref (a 100), .int w] (yA (a 186) D sz (xwT sk a t i q c d) (xtT t))) (va_Qi (fun (r : Int32) (_ : Unit) => True) oA (ro sz)) 0 0 (ro sz) := by
  refine Met.ofW (cc := cX11_trace) (maxL := 2) (ret := (some .int)) (by decide +kernel) rfl ?_
  intro p e s m args below meth cd s₁ B hml hv
  obtain ⟨rfl, ⟨hsz, hP, hK⟩, hN, hZ⟩ := hv
  have hx := B.exec
  have hb := B.bytes
  have hr := B.returns
  have hts := atoms_spec (ws := wm_X11_trace) B.pre
  have hown : s.vm.findClass RX11 = some m.cls := findClass_of_methodNamed B.named
  have hlocks := B.notSynchronized
  subst hsz
  have hA : ∀ q : Nat, s.heap.size ≤ q → ro s.heap.size q := fun _ h => h
  have hS : va_S (ro s.heap.size) s.heap s.heap [] := va_S.rf
  have hl := lv_entry ([.ref (a 100), .int w]) (n := 2) (Nat.le_of_ble_eq_true rfl)
  rw [lg_entry_eq]
  generalize (lg_sl ([.ref (a 100), .int w]) ++ List.replicate (2 - (lg_sl ([.ref (a 100), .int w])).length) Slot.unset).toArray = ls at hl ⊢
  have hl : lv_has ls 2 [(0, .ref (a 100)), (1, .int w)] := hl
  refine lv_iload_n hx hb dX11_trace_0 rfl (lv_at hl 1 rfl) ?_
  refine lv_aload_n hx hb dX11_trace_1 rfl (lv_at hl 0 rfl) ?_
  refine xgT_X_bulks hx hb hts (fun _ h => List.mem_cons_of_mem _ (List.mem_append_left _ (List.mem_append_right _ h))) hown hK hP (hts (.fieldLink RX11 37 "TalePlay" "bulks" "LTalePlay$Bulks;") (List.mem_cons_of_mem _ (List.mem_append_left _ (List.mem_append_left _ (List.mem_of_getElem? (i := 0) rfl))))) dX11_trace_2 ?_
  refine xgT_K_traced (v := (i 140)) rfl hx hb hts (fun _ h => List.mem_cons_of_mem _ (List.mem_append_right _ h)) hown hK hP (hts (.fieldLink RX11 139 "TalePlay$Bulks" "traced" "I") (List.mem_cons_of_mem _ (List.mem_append_left _ (List.mem_append_left _ (List.mem_of_getElem? (i := 1) rfl))))) dX11_trace_5 ?_
  have rb140_i : 0 ≤ (i 140).toInt ∧ (i 140).toInt ≤ 100 := hI.1 140
  have hPc := hP.sub (ws' := []) [] rfl
  have hKc := hK.sub (tys' := []) [] rfl
  refine ro_calli (va_runS (As := [.int w, .int (i 140)]) (rest := []) ⟨hx, hb, hml, hown, hts⟩ (c_X11_isBelow l D s.heap.size w (i 140) w.toInt ((i 140).toInt) rfl rfl) (va_cwS 2 hts gm_X11_trace_X11_isBelow_91 rfl rfl rfl (by decide +kernel) ⟨Nat.le_of_ble_eq_true rfl, Nat.le_of_ble_eq_true rfl⟩) (pA_S hKc hPc) rfl rfl hl.1 rfl (lv_room (Nat.le_of_ble_eq_true rfl)) dX11_trace_8 ⟨Nat.le_of_ble_eq_true rfl, Nat.le_of_ble_eq_true rfl⟩) hS hA hP (fun r2 u2 H locs hw2 hP hS => ?_)
  have hw2 : r2 = if (0 ≤ w.toInt ∧ w.toInt < ((i 140).toInt)) then 1 else 0 := hw2
  refine lv_if_eq (tgt := 26) hx hb dX11_trace_11 (by decide +kernel) (fun c3 => ?_) (fun c3 => ?_)
  · have f3 := fl_f hw2 c3
    refine lv_bipush (v := (-9)) hx hb dX11_trace_26 (by decide +kernel) ?_
    exact ro_iret hx hb hr hlocks hS dX11_trace_28 trivial
  · have f3 := fl_t hw2 c3
    refine lv_aload_n hx hb dX11_trace_14 rfl (lv_at hl 0 rfl) ?_
    refine xgT_X_bulks hx hb hts (fun _ h => List.mem_cons_of_mem _ (List.mem_append_left _ (List.mem_append_right _ h))) hown hK hP (hts (.fieldLink RX11 37 "TalePlay" "bulks" "LTalePlay$Bulks;") (List.mem_cons_of_mem _ (List.mem_append_left _ (List.mem_append_left _ (List.mem_of_getElem? (i := 0) rfl))))) dX11_trace_15 ?_
    refine xgT_K_trace hx hb hts (fun _ h => List.mem_cons_of_mem _ (List.mem_append_right _ h)) hown hK hP (hts (.fieldLink RX11 142 "TalePlay$Bulks" "trace" "[I") (List.mem_cons_of_mem _ (List.mem_append_left _ (List.mem_append_left _ (List.mem_of_getElem? (i := 6) rfl))))) dX11_trace_18 ?_
    refine lv_iload_n hx hb dX11_trace_21 rfl (lv_at hl 1 rfl) ?_
    refine xlT_139 hx hb hK hP (vp_in_iff.mpr (by have h9 : w.toInt = w.toInt := rfl; omega)) dX11_trace_22 (fun x4 ex4 => ?_)
    refine lv_goto (tgt := 28) hx hb dX11_trace_23 (by decide +kernel) ?_
    exact ro_iret hx hb hr hlocks hS dX11_trace_28 trivial

def wm_X11_clash : List Cond := .code yX11_clash cX11_clash 2 (some .int) :: (([.fieldLink RX11 21 "TalePlay" "book" "LTalePlay$Book;", .fieldLink RX11 194 "TalePlay$Book" "clashes" "I", .methodLink RX11 91 yX11_isBelow, .static yX11_isBelow, .initialized RX11, .code yX11_isBelow cX11_isBelow 2 (some .boolean), .fieldLink RX11 197 "TalePlay$Book" "clashRow" "[I"] : List Cond) ++ wsX110 ++ wsX10)
set_option maxRecDepth 20000 in
theorem gm_X11_clash_X11_isBelow_91 : GoodIn wm_X11_clash (va_wsS RX11 91 yX11_isBelow wm_X11_isBelow) := goodIn_w (List.forall_mem_append.mpr ⟨List.forall_mem_cons.mpr ⟨List.mem_cons_of_mem _ (List.mem_append_left _ (List.mem_append_left _ (List.mem_of_getElem? (i := 2) rfl))), List.forall_mem_cons.mpr ⟨List.mem_cons_of_mem _ (List.mem_append_left _ (List.mem_append_left _ (List.mem_of_getElem? (i := 3) rfl))), List.forall_mem_cons.mpr ⟨List.mem_cons_of_mem _ (List.mem_append_left _ (List.mem_append_left _ (List.mem_of_getElem? (i := 4) rfl))), (fun _ h => absurd h List.not_mem_nil)⟩⟩⟩, List.forall_mem_cons.mpr ⟨List.mem_cons_of_mem _ (List.mem_append_left _ (List.mem_append_left _ (List.mem_of_getElem? (i := 5) rfl))), (fun _ h => absurd h List.not_mem_nil)⟩⟩) (by decide +kernel)
set_option maxHeartbeats 4000000 in
set_option maxRecDepth 100000 in
theorem x_X11_clash (l : Launch) (D : va_G) (sz : Nat) (sk : Value) (a : Nat → Nat) (t : Nat → ClassId) (i : Nat → Int32) (q : Int64) (c : Nat → Nat → Int32) (d : Nat → Nat → Int64) (w : Int32) (hI : xInv i c) : Met l yX11_clash wm_X11_clash ({ frames := 1, cells := 0, slots := 0, locals := 21 }) (va_Pc [.ref (a 100), .int w] (yA (a 186) D sz (xwT sk a t i q c d) (xtT t))) (va_Qi (fun (r : Int32) (_ : Unit) => True) oA (ro sz)) 0 0 (ro sz) := by
  refine Met.ofW (cc := cX11_clash) (maxL := 2) (ret := (some .int)) (by decide +kernel) rfl ?_
  intro p e s m args below meth cd s₁ B hml hv
  obtain ⟨rfl, ⟨hsz, hP, hK⟩, hN, hZ⟩ := hv
  have hx := B.exec
  have hb := B.bytes
  have hr := B.returns
  have hts := atoms_spec (ws := wm_X11_clash) B.pre
  have hown : s.vm.findClass RX11 = some m.cls := findClass_of_methodNamed B.named
  have hlocks := B.notSynchronized
  subst hsz
  have hA : ∀ q : Nat, s.heap.size ≤ q → ro s.heap.size q := fun _ h => h
  have hS : va_S (ro s.heap.size) s.heap s.heap [] := va_S.rf
  have hl := lv_entry ([.ref (a 100), .int w]) (n := 2) (Nat.le_of_ble_eq_true rfl)
  rw [lg_entry_eq]
  generalize (lg_sl ([.ref (a 100), .int w]) ++ List.replicate (2 - (lg_sl ([.ref (a 100), .int w])).length) Slot.unset).toArray = ls at hl ⊢
  have hl : lv_has ls 2 [(0, .ref (a 100)), (1, .int w)] := hl
  refine lv_iload_n hx hb dX11_clash_0 rfl (lv_at hl 1 rfl) ?_
  refine lv_aload_n hx hb dX11_clash_1 rfl (lv_at hl 0 rfl) ?_
  refine xgT_X_book hx hb hts (fun _ h => List.mem_cons_of_mem _ (List.mem_append_left _ (List.mem_append_right _ h))) hown hK hP (hts (.fieldLink RX11 21 "TalePlay" "book" "LTalePlay$Book;") (List.mem_cons_of_mem _ (List.mem_append_left _ (List.mem_append_left _ (List.mem_of_getElem? (i := 0) rfl))))) dX11_clash_2 ?_
  refine xgT_B_clashes (v := (i 123)) rfl hx hb hts (fun _ h => List.mem_cons_of_mem _ (List.mem_append_right _ h)) hown hK hP (hts (.fieldLink RX11 194 "TalePlay$Book" "clashes" "I") (List.mem_cons_of_mem _ (List.mem_append_left _ (List.mem_append_left _ (List.mem_of_getElem? (i := 1) rfl))))) dX11_clash_5 ?_
  have rb123_i : 0 ≤ (i 123).toInt ∧ (i 123).toInt ≤ 30 := hI.1 123
  have hPc := hP.sub (ws' := []) [] rfl
  have hKc := hK.sub (tys' := []) [] rfl
  refine ro_calli (va_runS (As := [.int w, .int (i 123)]) (rest := []) ⟨hx, hb, hml, hown, hts⟩ (c_X11_isBelow l D s.heap.size w (i 123) w.toInt ((i 123).toInt) rfl rfl) (va_cwS 2 hts gm_X11_clash_X11_isBelow_91 rfl rfl rfl (by decide +kernel) ⟨Nat.le_of_ble_eq_true rfl, Nat.le_of_ble_eq_true rfl⟩) (pA_S hKc hPc) rfl rfl hl.1 rfl (lv_room (Nat.le_of_ble_eq_true rfl)) dX11_clash_8 ⟨Nat.le_of_ble_eq_true rfl, Nat.le_of_ble_eq_true rfl⟩) hS hA hP (fun r2 u2 H locs hw2 hP hS => ?_)
  have hw2 : r2 = if (0 ≤ w.toInt ∧ w.toInt < ((i 123).toInt)) then 1 else 0 := hw2
  refine lv_if_eq (tgt := 26) hx hb dX11_clash_11 (by decide +kernel) (fun c3 => ?_) (fun c3 => ?_)
  · have f3 := fl_f hw2 c3
    refine lv_bipush (v := (-9)) hx hb dX11_clash_26 (by decide +kernel) ?_
    exact ro_iret hx hb hr hlocks hS dX11_clash_28 trivial
  · have f3 := fl_t hw2 c3
    refine lv_aload_n hx hb dX11_clash_14 rfl (lv_at hl 0 rfl) ?_
    refine xgT_X_book hx hb hts (fun _ h => List.mem_cons_of_mem _ (List.mem_append_left _ (List.mem_append_right _ h))) hown hK hP (hts (.fieldLink RX11 21 "TalePlay" "book" "LTalePlay$Book;") (List.mem_cons_of_mem _ (List.mem_append_left _ (List.mem_append_left _ (List.mem_of_getElem? (i := 0) rfl))))) dX11_clash_15 ?_
    refine xgT_B_clashRow hx hb hts (fun _ h => List.mem_cons_of_mem _ (List.mem_append_right _ h)) hown hK hP (hts (.fieldLink RX11 197 "TalePlay$Book" "clashRow" "[I") (List.mem_cons_of_mem _ (List.mem_append_left _ (List.mem_append_left _ (List.mem_of_getElem? (i := 6) rfl))))) dX11_clash_18 ?_
    refine lv_iload_n hx hb dX11_clash_21 rfl (lv_at hl 1 rfl) ?_
    refine xlT_122 hx hb hK hP (vp_in_iff.mpr (by have h9 : w.toInt = w.toInt := rfl; omega)) dX11_clash_22 (fun x4 ex4 => ?_)
    have rx4 : 0 ≤ x4.toInt ∧ x4.toInt ≤ 199 := by rw [ex4]; exact hI.2 122 _
    refine lv_goto (tgt := 28) hx hb dX11_clash_23 (by decide +kernel) ?_
    exact ro_iret hx hb hr hlocks hS dX11_clash_28 trivial

def wm_X11_sentence : List Cond := .code yX11_sentence cX11_sentence 3 (some .int) :: ((([.fieldLink RX11 21 "TalePlay" "book" "LTalePlay$Book;", .fieldLink RX11 168 "TalePlay$Book" "total" "I", .methodLink RX11 91 yX11_isBelow, .static yX11_isBelow, .initialized RX11, .code yX11_isBelow cX11_isBelow 2 (some .boolean), .methodLink RX11 200 yX1_part, .instanceMethod yX1_part, .selects RX1 yX1_part yX1_part, .initialized RX1, .code yX1_part cX1_part 3 (some .int), .fieldLink RX1 24 "TalePlay$Book" "said" "[Z", .code yX11_oneIf cX11_oneIf 1 (some .int), .static yX11_oneIf, .fieldLink RX1 9 "TalePlay$Book" "forms" "[I", .fieldLink RX1 15 "TalePlay$Book" "as" "[I"] : List Cond) ++ ([.fieldLink RX1 18 "TalePlay$Book" "bs" "[I", .fieldLink RX1 21 "TalePlay$Book" "cs" "[I"] : List Cond)) ++ wsX110 ++ wsX10)
set_option maxRecDepth 20000 in
theorem gm_X11_sentence_X11_isBelow_91 : GoodIn wm_X11_sentence (va_wsS RX11 91 yX11_isBelow wm_X11_isBelow) := goodIn_w (List.forall_mem_append.mpr ⟨List.forall_mem_cons.mpr ⟨List.mem_cons_of_mem _ (List.mem_append_left _ (List.mem_append_left _ (List.mem_append_left _ (List.mem_of_getElem? (i := 2) rfl)))), List.forall_mem_cons.mpr ⟨List.mem_cons_of_mem _ (List.mem_append_left _ (List.mem_append_left _ (List.mem_append_left _ (List.mem_of_getElem? (i := 3) rfl)))), List.forall_mem_cons.mpr ⟨List.mem_cons_of_mem _ (List.mem_append_left _ (List.mem_append_left _ (List.mem_append_left _ (List.mem_of_getElem? (i := 4) rfl)))), (fun _ h => absurd h List.not_mem_nil)⟩⟩⟩, List.forall_mem_cons.mpr ⟨List.mem_cons_of_mem _ (List.mem_append_left _ (List.mem_append_left _ (List.mem_append_left _ (List.mem_of_getElem? (i := 5) rfl)))), (fun _ h => absurd h List.not_mem_nil)⟩⟩) (by decide +kernel)
set_option maxRecDepth 20000 in
theorem gm_X11_sentence_X1_part_200 : GoodIn wm_X11_sentence (wsV RX11 200 RX1 yX1_part wm_X1_part) := goodIn_w (List.forall_mem_append.mpr ⟨List.forall_mem_cons.mpr ⟨List.mem_cons_of_mem _ (List.mem_append_left _ (List.mem_append_left _ (List.mem_append_left _ (List.mem_of_getElem? (i := 6) rfl)))), List.forall_mem_cons.mpr ⟨List.mem_cons_of_mem _ (List.mem_append_left _ (List.mem_append_left _ (List.mem_append_left _ (List.mem_of_getElem? (i := 7) rfl)))), List.forall_mem_cons.mpr ⟨List.mem_cons_of_mem _ (List.mem_append_left _ (List.mem_append_left _ (List.mem_append_left _ (List.mem_of_getElem? (i := 8) rfl)))), List.forall_mem_cons.mpr ⟨List.mem_cons_of_mem _ (List.mem_append_left _ (List.mem_append_left _ (List.mem_append_left _ (List.mem_of_getElem? (i := 9) rfl)))), (fun _ h => absurd h List.not_mem_nil)⟩⟩⟩⟩, List.forall_mem_cons.mpr ⟨List.mem_cons_of_mem _ (List.mem_append_left _ (List.mem_append_left _ (List.mem_append_left _ (List.mem_of_getElem? (i := 10) rfl)))), List.forall_mem_append.mpr ⟨List.forall_mem_cons.mpr ⟨List.mem_cons_of_mem _ (List.mem_append_left _ (List.mem_append_left _ (List.mem_append_left _ (List.mem_of_getElem? (i := 11) rfl)))), List.forall_mem_cons.mpr ⟨List.mem_cons_of_mem _ (List.mem_append_left _ (List.mem_append_left _ (List.mem_append_left _ (List.mem_of_getElem? (i := 12) rfl)))), List.forall_mem_cons.mpr ⟨List.mem_cons_of_mem _ (List.mem_append_left _ (List.mem_append_left _ (List.mem_append_left _ (List.mem_of_getElem? (i := 4) rfl)))), List.forall_mem_cons.mpr ⟨List.mem_cons_of_mem _ (List.mem_append_left _ (List.mem_append_left _ (List.mem_append_left _ (List.mem_of_getElem? (i := 13) rfl)))), List.forall_mem_cons.mpr ⟨List.mem_cons_of_mem _ (List.mem_append_left _ (List.mem_append_left _ (List.mem_append_left _ (List.mem_of_getElem? (i := 14) rfl)))), List.forall_mem_cons.mpr ⟨List.mem_cons_of_mem _ (List.mem_append_left _ (List.mem_append_left _ (List.mem_append_left _ (List.mem_of_getElem? (i := 15) rfl)))), List.forall_mem_cons.mpr ⟨List.mem_cons_of_mem _ (List.mem_append_left _ (List.mem_append_left _ (List.mem_append_right _ (List.mem_of_getElem? (i := 0) rfl)))), List.forall_mem_cons.mpr ⟨List.mem_cons_of_mem _ (List.mem_append_left _ (List.mem_append_left _ (List.mem_append_right _ (List.mem_of_getElem? (i := 1) rfl)))), (fun _ h => absurd h List.not_mem_nil)⟩⟩⟩⟩⟩⟩⟩⟩, (fun _ h => List.mem_cons_of_mem _ (List.mem_append_right _ h))⟩⟩⟩) (by decide +kernel)
set_option maxHeartbeats 4000000 in
set_option maxRecDepth 100000 in
theorem x_X11_sentence (l : Launch) (D : va_G) (sz : Nat) (sk : Value) (a : Nat → Nat) (t : Nat → ClassId) (i : Nat → Int32) (q : Int64) (c : Nat → Nat → Int32) (d : Nat → Nat → Int64) (s1 : Int32) (w : Int32) (hI : xInv i c) : Met l yX11_sentence wm_X11_sentence ({ frames := 2, cells := 0, slots := 0, locals := 42 }) (va_Pc [.ref (a 100), .int s1, .int w] (yA (a 186) D sz (xwT sk a t i q c d) (xtT t))) (va_Qi (fun (r : Int32) (_ : Unit) => True) oA (ro sz)) 0 0 (ro sz) := by
  refine Met.ofW (cc := cX11_sentence) (maxL := 3) (ret := (some .int)) (by decide +kernel) rfl ?_
  intro p e s m args below meth cd s₁ B hml hv
  obtain ⟨rfl, ⟨hsz, hP, hK⟩, hN, hZ⟩ := hv
  have hx := B.exec
  have hb := B.bytes
  have hr := B.returns
  have hts := atoms_spec (ws := wm_X11_sentence) B.pre
  have hown : s.vm.findClass RX11 = some m.cls := findClass_of_methodNamed B.named
  have hlocks := B.notSynchronized
  subst hsz
  have hA : ∀ q : Nat, s.heap.size ≤ q → ro s.heap.size q := fun _ h => h
  have hS : va_S (ro s.heap.size) s.heap s.heap [] := va_S.rf
  have hl := lv_entry ([.ref (a 100), .int s1, .int w]) (n := 3) (Nat.le_of_ble_eq_true rfl)
  rw [lg_entry_eq]
  generalize (lg_sl ([.ref (a 100), .int s1, .int w]) ++ List.replicate (3 - (lg_sl ([.ref (a 100), .int s1, .int w])).length) Slot.unset).toArray = ls at hl ⊢
  have hl : lv_has ls 3 [(0, .ref (a 100)), (1, .int s1), (2, .int w)] := hl
  refine lv_iload_n hx hb dX11_sentence_0 rfl (lv_at hl 1 rfl) ?_
  refine lv_aload_n hx hb dX11_sentence_1 rfl (lv_at hl 0 rfl) ?_
  refine xgT_X_book hx hb hts (fun _ h => List.mem_cons_of_mem _ (List.mem_append_left _ (List.mem_append_right _ h))) hown hK hP (hts (.fieldLink RX11 21 "TalePlay" "book" "LTalePlay$Book;") (List.mem_cons_of_mem _ (List.mem_append_left _ (List.mem_append_left _ (List.mem_append_left _ (List.mem_of_getElem? (i := 0) rfl)))))) dX11_sentence_2 ?_
  refine xgT_B_total (v := (i 124)) rfl hx hb hts (fun _ h => List.mem_cons_of_mem _ (List.mem_append_right _ h)) hown hK hP (hts (.fieldLink RX11 168 "TalePlay$Book" "total" "I") (List.mem_cons_of_mem _ (List.mem_append_left _ (List.mem_append_left _ (List.mem_append_left _ (List.mem_of_getElem? (i := 1) rfl)))))) dX11_sentence_5 ?_
  have rb124_i : 0 ≤ (i 124).toInt ∧ (i 124).toInt ≤ 200 := hI.1 124
  have hPc := hP.sub (ws' := []) [] rfl
  have hKc := hK.sub (tys' := []) [] rfl
  refine ro_calli (va_runS (As := [.int s1, .int (i 124)]) (rest := []) ⟨hx, hb, hml, hown, hts⟩ (c_X11_isBelow l D s.heap.size s1 (i 124) s1.toInt ((i 124).toInt) rfl rfl) (va_cwS 2 hts gm_X11_sentence_X11_isBelow_91 rfl rfl rfl (by decide +kernel) ⟨Nat.le_of_ble_eq_true rfl, Nat.le_of_ble_eq_true rfl⟩) (pA_S hKc hPc) rfl rfl hl.1 rfl (lv_room (Nat.le_of_ble_eq_true rfl)) dX11_sentence_8 ⟨Nat.le_of_ble_eq_true rfl, Nat.le_of_ble_eq_true rfl⟩) hS hA hP (fun r2 u2 H locs hw2 hP hS => ?_)
  have hw2 : r2 = if (0 ≤ s1.toInt ∧ s1.toInt < ((i 124).toInt)) then 1 else 0 := hw2
  refine lv_if_eq (tgt := 22) hx hb dX11_sentence_11 (by decide +kernel) (fun c3 => ?_) (fun c3 => ?_)
  · have f3 := fl_f hw2 c3
    refine lv_iconst (v := (-1)) hx hb dX11_sentence_22 (by decide +kernel) ?_
    exact ro_iret hx hb hr hlocks hS dX11_sentence_23 trivial
  · have f3 := fl_t hw2 c3
    refine lv_iload_n hx hb dX11_sentence_14 rfl (lv_at hl 2 rfl) ?_
    refine lv_iconst (v := 5) hx hb dX11_sentence_15 (by decide +kernel) ?_
    have hPc := hP.sub (ws' := []) [] rfl
    have hKc := hK.sub (tys' := []) [] rfl
    refine ro_calli (va_runS (As := [.int w, .int 5]) (rest := []) ⟨hx, hb, hml, hown, hts⟩ (c_X11_isBelow l D H.size w 5 w.toInt 5 rfl (by decide +kernel)) (va_cwS 2 hts gm_X11_sentence_X11_isBelow_91 rfl rfl rfl (by decide +kernel) ⟨Nat.le_of_ble_eq_true rfl, Nat.le_of_ble_eq_true rfl⟩) (pA_S hKc hPc) rfl rfl hl.1 rfl (lv_room (Nat.le_of_ble_eq_true rfl)) dX11_sentence_16 ⟨Nat.le_of_ble_eq_true rfl, Nat.le_of_ble_eq_true rfl⟩) hS hA hP (fun r5 u5 H locs hw5 hP hS => ?_)
    have hw5 : r5 = if (0 ≤ w.toInt ∧ w.toInt < 5) then 1 else 0 := hw5
    refine lv_if_ne (tgt := 24) hx hb dX11_sentence_19 (by decide +kernel) (fun c6 => ?_) (fun c6 => ?_)
    · have f6 := fl_t hw5 c6
      refine lv_aload_n hx hb dX11_sentence_24 rfl (lv_at hl 0 rfl) ?_
      refine xgT_X_book hx hb hts (fun _ h => List.mem_cons_of_mem _ (List.mem_append_left _ (List.mem_append_right _ h))) hown hK hP (hts (.fieldLink RX11 21 "TalePlay" "book" "LTalePlay$Book;") (List.mem_cons_of_mem _ (List.mem_append_left _ (List.mem_append_left _ (List.mem_append_left _ (List.mem_of_getElem? (i := 0) rfl)))))) dX11_sentence_25 ?_
      refine lv_iload_n hx hb dX11_sentence_28 rfl (lv_at hl 1 rfl) ?_
      refine lv_iload_n hx hb dX11_sentence_29 rfl (lv_at hl 2 rfl) ?_
      refine ro_calli (va_runV (As := [.int s1, .int w]) (rest := []) ⟨hx, hb, hml, hown, hts⟩ (x_X1_part l D H.size .null a t i q c d s1 w hI (show 0 ≤ s1.toInt ∧ s1.toInt ≤ 199 from by omega)) (cwV 2 hts gm_X11_sentence_X1_part_200 rfl rfl rfl (by decide +kernel) ⟨Nat.le_of_ble_eq_true rfl, Nat.le_of_ble_eq_true rfl⟩) (yA_V hN (xZ_k hZ hS hA) (xkT_B hK) (xuT_B (sk := sk) hP) (ci := 1) (q0 := 6) rfl rfl) rfl rfl hl.1 rfl (lv_room (Nat.le_of_ble_eq_true rfl)) dX11_sentence_30 ⟨Nat.le_of_ble_eq_true rfl, Nat.le_of_ble_eq_true rfl⟩) hS hA hP (fun r7 u7 H locs hw7 hP hS => ?_)
      exact ro_iret hx hb hr hlocks hS dX11_sentence_33 trivial
    · have f6 := fl_f hw5 c6
      refine lv_iconst (v := (-1)) hx hb dX11_sentence_22 (by decide +kernel) ?_
      exact ro_iret hx hb hr hlocks hS dX11_sentence_23 trivial

def wm_X11_place : List Cond := .code yX11_place cX11_place 3 (some .int) :: ((([.fieldLink RX11 10 "TalePlay" "world" "LTalePlay$World;", .methodLink RX11 109 yX10_hasObject, .instanceMethod yX10_hasObject, .selects RX10 yX10_hasObject yX10_hasObject, .initialized RX10, .code yX10_hasObject cX10_hasObject 2 (some .boolean), .fieldLink RX10 37 "TalePlay$World" "objects" "I", .methodLink RX11 91 yX11_isBelow, .static yX11_isBelow, .initialized RX11, .code yX11_isBelow cX11_isBelow 2 (some .boolean), .fieldLink RX11 21 "TalePlay" "book" "LTalePlay$Book;", .fieldLink RX11 214 "TalePlay$Book" "placeBy" "[I", .fieldLink RX11 203 "TalePlay$Book" "places" "LTalePlay$Scene;", .methodLink RX11 206 yX6_formOf, .instanceMethod yX6_formOf] : List Cond) ++ ([.selects RX6 yX6_formOf yX6_formOf, .initialized RX6, .code yX6_formOf cX6_formOf 3 (some .int), .fieldLink RX6 9 "TalePlay$Scene" "cells" "[I", .methodLink RX11 211 yX6_holderOf, .instanceMethod yX6_holderOf, .selects RX6 yX6_holderOf yX6_holderOf, .code yX6_holderOf cX6_holderOf 3 (some .int)] : List Cond)) ++ wsX110 ++ wsX100 ++ wsX10 ++ wsX60)
set_option maxRecDepth 20000 in
theorem gm_X11_place_X10_hasObject_109 : GoodIn wm_X11_place (wsV RX11 109 RX10 yX10_hasObject wm_X10_hasObject) := goodIn_w (List.forall_mem_append.mpr ⟨List.forall_mem_cons.mpr ⟨List.mem_cons_of_mem _ (List.mem_append_left _ (List.mem_append_left _ (List.mem_append_left _ (List.mem_append_left _ (List.mem_append_left _ (List.mem_of_getElem? (i := 1) rfl)))))), List.forall_mem_cons.mpr ⟨List.mem_cons_of_mem _ (List.mem_append_left _ (List.mem_append_left _ (List.mem_append_left _ (List.mem_append_left _ (List.mem_append_left _ (List.mem_of_getElem? (i := 2) rfl)))))), List.forall_mem_cons.mpr ⟨List.mem_cons_of_mem _ (List.mem_append_left _ (List.mem_append_left _ (List.mem_append_left _ (List.mem_append_left _ (List.mem_append_left _ (List.mem_of_getElem? (i := 3) rfl)))))), List.forall_mem_cons.mpr ⟨List.mem_cons_of_mem _ (List.mem_append_left _ (List.mem_append_left _ (List.mem_append_left _ (List.mem_append_left _ (List.mem_append_left _ (List.mem_of_getElem? (i := 4) rfl)))))), (fun _ h => absurd h List.not_mem_nil)⟩⟩⟩⟩, List.forall_mem_cons.mpr ⟨List.mem_cons_of_mem _ (List.mem_append_left _ (List.mem_append_left _ (List.mem_append_left _ (List.mem_append_left _ (List.mem_append_left _ (List.mem_of_getElem? (i := 5) rfl)))))), List.forall_mem_append.mpr ⟨List.forall_mem_cons.mpr ⟨List.mem_cons_of_mem _ (List.mem_append_left _ (List.mem_append_left _ (List.mem_append_left _ (List.mem_append_left _ (List.mem_append_left _ (List.mem_of_getElem? (i := 6) rfl)))))), (fun _ h => absurd h List.not_mem_nil)⟩, (fun _ h => List.mem_cons_of_mem _ (List.mem_append_left _ (List.mem_append_left _ (List.mem_append_right _ h))))⟩⟩⟩) (by decide +kernel)
set_option maxRecDepth 20000 in
theorem gm_X11_place_X11_isBelow_91 : GoodIn wm_X11_place (va_wsS RX11 91 yX11_isBelow wm_X11_isBelow) := goodIn_w (List.forall_mem_append.mpr ⟨List.forall_mem_cons.mpr ⟨List.mem_cons_of_mem _ (List.mem_append_left _ (List.mem_append_left _ (List.mem_append_left _ (List.mem_append_left _ (List.mem_append_left _ (List.mem_of_getElem? (i := 7) rfl)))))), List.forall_mem_cons.mpr ⟨List.mem_cons_of_mem _ (List.mem_append_left _ (List.mem_append_left _ (List.mem_append_left _ (List.mem_append_left _ (List.mem_append_left _ (List.mem_of_getElem? (i := 8) rfl)))))), List.forall_mem_cons.mpr ⟨List.mem_cons_of_mem _ (List.mem_append_left _ (List.mem_append_left _ (List.mem_append_left _ (List.mem_append_left _ (List.mem_append_left _ (List.mem_of_getElem? (i := 9) rfl)))))), (fun _ h => absurd h List.not_mem_nil)⟩⟩⟩, List.forall_mem_cons.mpr ⟨List.mem_cons_of_mem _ (List.mem_append_left _ (List.mem_append_left _ (List.mem_append_left _ (List.mem_append_left _ (List.mem_append_left _ (List.mem_of_getElem? (i := 10) rfl)))))), (fun _ h => absurd h List.not_mem_nil)⟩⟩) (by decide +kernel)
set_option maxRecDepth 20000 in
theorem gm_X11_place_X6_formOf_BP_206 : GoodIn wm_X11_place (wsV RX11 206 RX6 yX6_formOf wm_X6_formOf_BP) := goodIn_w (List.forall_mem_append.mpr ⟨List.forall_mem_cons.mpr ⟨List.mem_cons_of_mem _ (List.mem_append_left _ (List.mem_append_left _ (List.mem_append_left _ (List.mem_append_left _ (List.mem_append_left _ (List.mem_of_getElem? (i := 14) rfl)))))), List.forall_mem_cons.mpr ⟨List.mem_cons_of_mem _ (List.mem_append_left _ (List.mem_append_left _ (List.mem_append_left _ (List.mem_append_left _ (List.mem_append_left _ (List.mem_of_getElem? (i := 15) rfl)))))), List.forall_mem_cons.mpr ⟨List.mem_cons_of_mem _ (List.mem_append_left _ (List.mem_append_left _ (List.mem_append_left _ (List.mem_append_left _ (List.mem_append_right _ (List.mem_of_getElem? (i := 0) rfl)))))), List.forall_mem_cons.mpr ⟨List.mem_cons_of_mem _ (List.mem_append_left _ (List.mem_append_left _ (List.mem_append_left _ (List.mem_append_left _ (List.mem_append_right _ (List.mem_of_getElem? (i := 1) rfl)))))), (fun _ h => absurd h List.not_mem_nil)⟩⟩⟩⟩, List.forall_mem_cons.mpr ⟨List.mem_cons_of_mem _ (List.mem_append_left _ (List.mem_append_left _ (List.mem_append_left _ (List.mem_append_left _ (List.mem_append_right _ (List.mem_of_getElem? (i := 2) rfl)))))), List.forall_mem_append.mpr ⟨List.forall_mem_cons.mpr ⟨List.mem_cons_of_mem _ (List.mem_append_left _ (List.mem_append_left _ (List.mem_append_left _ (List.mem_append_left _ (List.mem_append_right _ (List.mem_of_getElem? (i := 3) rfl)))))), (fun _ h => absurd h List.not_mem_nil)⟩, (fun _ h => List.mem_cons_of_mem _ (List.mem_append_right _ h))⟩⟩⟩) (by decide +kernel)
set_option maxRecDepth 20000 in
theorem gm_X11_place_X6_holderOf_BP_211 : GoodIn wm_X11_place (wsV RX11 211 RX6 yX6_holderOf wm_X6_holderOf_BP) := goodIn_w (List.forall_mem_append.mpr ⟨List.forall_mem_cons.mpr ⟨List.mem_cons_of_mem _ (List.mem_append_left _ (List.mem_append_left _ (List.mem_append_left _ (List.mem_append_left _ (List.mem_append_right _ (List.mem_of_getElem? (i := 4) rfl)))))), List.forall_mem_cons.mpr ⟨List.mem_cons_of_mem _ (List.mem_append_left _ (List.mem_append_left _ (List.mem_append_left _ (List.mem_append_left _ (List.mem_append_right _ (List.mem_of_getElem? (i := 5) rfl)))))), List.forall_mem_cons.mpr ⟨List.mem_cons_of_mem _ (List.mem_append_left _ (List.mem_append_left _ (List.mem_append_left _ (List.mem_append_left _ (List.mem_append_right _ (List.mem_of_getElem? (i := 6) rfl)))))), List.forall_mem_cons.mpr ⟨List.mem_cons_of_mem _ (List.mem_append_left _ (List.mem_append_left _ (List.mem_append_left _ (List.mem_append_left _ (List.mem_append_right _ (List.mem_of_getElem? (i := 1) rfl)))))), (fun _ h => absurd h List.not_mem_nil)⟩⟩⟩⟩, List.forall_mem_cons.mpr ⟨List.mem_cons_of_mem _ (List.mem_append_left _ (List.mem_append_left _ (List.mem_append_left _ (List.mem_append_left _ (List.mem_append_right _ (List.mem_of_getElem? (i := 7) rfl)))))), List.forall_mem_append.mpr ⟨List.forall_mem_cons.mpr ⟨List.mem_cons_of_mem _ (List.mem_append_left _ (List.mem_append_left _ (List.mem_append_left _ (List.mem_append_left _ (List.mem_append_right _ (List.mem_of_getElem? (i := 3) rfl)))))), (fun _ h => absurd h List.not_mem_nil)⟩, (fun _ h => List.mem_cons_of_mem _ (List.mem_append_right _ h))⟩⟩⟩) (by decide +kernel)
set_option maxHeartbeats 4000000 in
set_option maxRecDepth 100000 in
theorem x_X11_place (l : Launch) (D : va_G) (sz : Nat) (sk : Value) (a : Nat → Nat) (t : Nat → ClassId) (i : Nat → Int32) (q : Int64) (c : Nat → Nat → Int32) (d : Nat → Nat → Int64) (w : Int32) (w1 : Int32) (hI : xInv i c) : Met l yX11_place wm_X11_place ({ frames := 1, cells := 0, slots := 0, locals := 22 }) (va_Pc [.ref (a 100), .int w, .int w1] (yA (a 186) D sz (xwT sk a t i q c d) (xtT t))) (va_Qi (fun (r : Int32) (_ : Unit) => True) oA (ro sz)) 0 0 (ro sz) := by
  refine Met.ofW (cc := cX11_place) (maxL := 3) (ret := (some .int)) (by decide +kernel) rfl ?_
  intro p e s m args below meth cd s₁ B hml hv
  obtain ⟨rfl, ⟨hsz, hP, hK⟩, hN, hZ⟩ := hv
  have hx := B.exec
  have hb := B.bytes
  have hr := B.returns
  have hts := atoms_spec (ws := wm_X11_place) B.pre
  have hown : s.vm.findClass RX11 = some m.cls := findClass_of_methodNamed B.named
  have hlocks := B.notSynchronized
  subst hsz
  have hA : ∀ q : Nat, s.heap.size ≤ q → ro s.heap.size q := fun _ h => h
  have hS : va_S (ro s.heap.size) s.heap s.heap [] := va_S.rf
  have hl := lv_entry ([.ref (a 100), .int w, .int w1]) (n := 3) (Nat.le_of_ble_eq_true rfl)
  rw [lg_entry_eq]
  generalize (lg_sl ([.ref (a 100), .int w, .int w1]) ++ List.replicate (3 - (lg_sl ([.ref (a 100), .int w, .int w1])).length) Slot.unset).toArray = ls at hl ⊢
  have hl : lv_has ls 3 [(0, .ref (a 100)), (1, .int w), (2, .int w1)] := hl
  refine lv_aload_n hx hb dX11_place_0 rfl (lv_at hl 0 rfl) ?_
  refine xgT_X_world hx hb hts (fun _ h => List.mem_cons_of_mem _ (List.mem_append_left _ (List.mem_append_left _ (List.mem_append_left _ (List.mem_append_right _ h))))) hown hK hP (hts (.fieldLink RX11 10 "TalePlay" "world" "LTalePlay$World;") (List.mem_cons_of_mem _ (List.mem_append_left _ (List.mem_append_left _ (List.mem_append_left _ (List.mem_append_left _ (List.mem_append_left _ (List.mem_of_getElem? (i := 0) rfl)))))))) dX11_place_1 ?_
  refine lv_iload_n hx hb dX11_place_4 rfl (lv_at hl 1 rfl) ?_
  have rb111_i : 0 ≤ (i 111).toInt ∧ (i 111).toInt ≤ 30 := hI.1 111
  refine ro_calli (va_runV (As := [.int w]) (rest := []) ⟨hx, hb, hml, hown, hts⟩ (x_X10_hasObject l D s.heap.size .null a t i q c d w hI ) (cwV 1 hts gm_X11_place_X10_hasObject_109 rfl rfl rfl (by decide +kernel) ⟨Nat.le_of_ble_eq_true rfl, Nat.le_of_ble_eq_true rfl⟩) (yA_V hN (xZ_k hZ hS hA) (xkT_W hK) (xuT_W (sk := sk) hP) (ci := 10) (q0 := 0) rfl rfl) rfl rfl hl.1 rfl (lv_room (Nat.le_of_ble_eq_true rfl)) dX11_place_5 ⟨Nat.le_of_ble_eq_true rfl, Nat.le_of_ble_eq_true rfl⟩) hS hA hP (fun r1 u1 H locs hw1 hP hS => ?_)
  have hw1 : r1 = if (0 ≤ w.toInt ∧ w.toInt < (i 111).toInt) then 1 else 0 := hw1
  refine lv_if_eq (tgt := 19) hx hb dX11_place_8 (by decide +kernel) (fun c2 => ?_) (fun c2 => ?_)
  · have f2 := fl_f hw1 c2
    refine lv_iconst (v := (-1)) hx hb dX11_place_19 (by decide +kernel) ?_
    exact ro_iret hx hb hr hlocks hS dX11_place_20 trivial
  · have f2 := fl_t hw1 c2
    refine lv_iload_n hx hb dX11_place_11 rfl (lv_at hl 2 rfl) ?_
    refine lv_iconst (v := 3) hx hb dX11_place_12 (by decide +kernel) ?_
    have hPc := hP.sub (ws' := []) [] rfl
    have hKc := hK.sub (tys' := []) [] rfl
    refine ro_calli (va_runS (As := [.int w1, .int 3]) (rest := []) ⟨hx, hb, hml, hown, hts⟩ (c_X11_isBelow l D H.size w1 3 w1.toInt 3 rfl (by decide +kernel)) (va_cwS 2 hts gm_X11_place_X11_isBelow_91 rfl rfl rfl (by decide +kernel) ⟨Nat.le_of_ble_eq_true rfl, Nat.le_of_ble_eq_true rfl⟩) (pA_S hKc hPc) rfl rfl hl.1 rfl (lv_room (Nat.le_of_ble_eq_true rfl)) dX11_place_13 ⟨Nat.le_of_ble_eq_true rfl, Nat.le_of_ble_eq_true rfl⟩) hS hA hP (fun r4 u4 H locs hw4 hP hS => ?_)
    have hw4 : r4 = if (0 ≤ w1.toInt ∧ w1.toInt < 3) then 1 else 0 := hw4
    refine lv_if_ne (tgt := 21) hx hb dX11_place_16 (by decide +kernel) (fun c5 => ?_) (fun c5 => ?_)
    · have f5 := fl_t hw4 c5
      refine lv_iload_n hx hb dX11_place_21 rfl (lv_at hl 2 rfl) ?_
      rcases (show (w1.toInt ≠ 0 ∧ w1.toInt ≠ 1) ∨ w1.toInt = 0 ∨ w1.toInt = 1 by omega) with f6 | f6 | f6
      · refine lv_lookup (off := 54) (tgt := 76) hx hb dX11_place_22 (by decide +kernel) (by show (if (0 : Int) = w1.toInt then (26 : Int) else (if (1 : Int) = w1.toInt then (40 : Int) else 54)) = 54; rw [if_neg (fun e9 => f6.1 e9.symm), if_neg (fun e9 => f6.2 e9.symm)]) (by decide +kernel) ?_
        refine lv_aload_n hx hb dX11_place_76 rfl (lv_at hl 0 rfl) ?_
        refine xgT_X_book hx hb hts (fun _ h => List.mem_cons_of_mem _ (List.mem_append_left _ (List.mem_append_left _ (List.mem_append_left _ (List.mem_append_right _ h))))) hown hK hP (hts (.fieldLink RX11 21 "TalePlay" "book" "LTalePlay$Book;") (List.mem_cons_of_mem _ (List.mem_append_left _ (List.mem_append_left _ (List.mem_append_left _ (List.mem_append_left _ (List.mem_append_left _ (List.mem_of_getElem? (i := 11) rfl)))))))) dX11_place_77 ?_
        refine xgT_B_placeBy hx hb hts (fun _ h => List.mem_cons_of_mem _ (List.mem_append_left _ (List.mem_append_right _ h))) hown hK hP (hts (.fieldLink RX11 214 "TalePlay$Book" "placeBy" "[I") (List.mem_cons_of_mem _ (List.mem_append_left _ (List.mem_append_left _ (List.mem_append_left _ (List.mem_append_left _ (List.mem_append_left _ (List.mem_of_getElem? (i := 12) rfl)))))))) dX11_place_80 ?_
        refine lv_iload_n hx hb dX11_place_83 rfl (lv_at hl 1 rfl) ?_
        refine xlT_118 hx hb hK hP (vp_in_iff.mpr (by have h9 : w.toInt = w.toInt := rfl; omega)) dX11_place_84 (fun x7 ex7 => ?_)
        have rx7 : x7.toInt = -9 ∨ (0 ≤ x7.toInt ∧ x7.toInt ≤ 199) := by rw [ex7]; exact hI.2 118 _
        exact ro_iret hx hb hr hlocks hS dX11_place_85 trivial
      · refine lv_lookup (off := 26) (tgt := 48) hx hb dX11_place_22 (by decide +kernel) (by rw [f6]; rfl) (by decide +kernel) ?_
        refine lv_aload_n hx hb dX11_place_48 rfl (lv_at hl 0 rfl) ?_
        refine xgT_X_book hx hb hts (fun _ h => List.mem_cons_of_mem _ (List.mem_append_left _ (List.mem_append_left _ (List.mem_append_left _ (List.mem_append_right _ h))))) hown hK hP (hts (.fieldLink RX11 21 "TalePlay" "book" "LTalePlay$Book;") (List.mem_cons_of_mem _ (List.mem_append_left _ (List.mem_append_left _ (List.mem_append_left _ (List.mem_append_left _ (List.mem_append_left _ (List.mem_of_getElem? (i := 11) rfl)))))))) dX11_place_49 ?_
        refine xgT_B_places hx hb hts (fun _ h => List.mem_cons_of_mem _ (List.mem_append_left _ (List.mem_append_right _ h))) hown hK hP (hts (.fieldLink RX11 203 "TalePlay$Book" "places" "LTalePlay$Scene;") (List.mem_cons_of_mem _ (List.mem_append_left _ (List.mem_append_left _ (List.mem_append_left _ (List.mem_append_left _ (List.mem_append_left _ (List.mem_of_getElem? (i := 13) rfl)))))))) dX11_place_52 ?_
        refine lv_iload_n hx hb dX11_place_55 rfl (lv_at hl 1 rfl) ?_
        refine ro_calli (va_runV (As := [.int w]) (rest := []) ⟨hx, hb, hml, hown, hts⟩ (x_X6_formOf_BP l D H.size .null a t i q c d w hI (show 0 ≤ w.toInt ∧ w.toInt ≤ 29 from by omega)) (cwV 1 hts gm_X11_place_X6_formOf_BP_206 rfl rfl rfl (by decide +kernel) ⟨Nat.le_of_ble_eq_true rfl, Nat.le_of_ble_eq_true rfl⟩) (yA_V hN (xZ_k hZ hS hA) (xkT_P0 hK) (xuT_P0 (sk := sk) hP) (ci := 6) (q0 := 0) rfl rfl) rfl rfl hl.1 rfl (lv_room (Nat.le_of_ble_eq_true rfl)) dX11_place_56 ⟨Nat.le_of_ble_eq_true rfl, Nat.le_of_ble_eq_true rfl⟩) hS hA hP (fun r8 u8 H locs hw8 hP hS => ?_)
        have hw8 : ((r8.toInt = -9 ∧ (c 127 w.toNatClampNeg).toInt % 256 = 255) ∨ (0 ≤ r8.toInt ∧ r8.toInt ≤ 4 ∧ ¬ (c 127 w.toNatClampNeg).toInt % 256 = 255 ∧ r8.toInt = (c 127 w.toNatClampNeg).toInt % 8)) := hw8
        refine lv_goto (tgt := 85) hx hb dX11_place_59 (by decide +kernel) ?_
        exact ro_iret hx hb hr hlocks hS dX11_place_85 trivial
      · refine lv_lookup (off := 40) (tgt := 62) hx hb dX11_place_22 (by decide +kernel) (by rw [f6]; rfl) (by decide +kernel) ?_
        refine lv_aload_n hx hb dX11_place_62 rfl (lv_at hl 0 rfl) ?_
        refine xgT_X_book hx hb hts (fun _ h => List.mem_cons_of_mem _ (List.mem_append_left _ (List.mem_append_left _ (List.mem_append_left _ (List.mem_append_right _ h))))) hown hK hP (hts (.fieldLink RX11 21 "TalePlay" "book" "LTalePlay$Book;") (List.mem_cons_of_mem _ (List.mem_append_left _ (List.mem_append_left _ (List.mem_append_left _ (List.mem_append_left _ (List.mem_append_left _ (List.mem_of_getElem? (i := 11) rfl)))))))) dX11_place_63 ?_
        refine xgT_B_places hx hb hts (fun _ h => List.mem_cons_of_mem _ (List.mem_append_left _ (List.mem_append_right _ h))) hown hK hP (hts (.fieldLink RX11 203 "TalePlay$Book" "places" "LTalePlay$Scene;") (List.mem_cons_of_mem _ (List.mem_append_left _ (List.mem_append_left _ (List.mem_append_left _ (List.mem_append_left _ (List.mem_append_left _ (List.mem_of_getElem? (i := 13) rfl)))))))) dX11_place_66 ?_
        refine lv_iload_n hx hb dX11_place_69 rfl (lv_at hl 1 rfl) ?_
        refine ro_calli (va_runV (As := [.int w]) (rest := []) ⟨hx, hb, hml, hown, hts⟩ (x_X6_holderOf_BP l D H.size .null a t i q c d w hI (show 0 ≤ w.toInt ∧ w.toInt ≤ 29 from by omega)) (cwV 1 hts gm_X11_place_X6_holderOf_BP_211 rfl rfl rfl (by decide +kernel) ⟨Nat.le_of_ble_eq_true rfl, Nat.le_of_ble_eq_true rfl⟩) (yA_V hN (xZ_k hZ hS hA) (xkT_P0 hK) (xuT_P0 (sk := sk) hP) (ci := 6) (q0 := 0) rfl rfl) rfl rfl hl.1 rfl (lv_room (Nat.le_of_ble_eq_true rfl)) dX11_place_70 ⟨Nat.le_of_ble_eq_true rfl, Nat.le_of_ble_eq_true rfl⟩) hS hA hP (fun r9 u9 H locs hw9 hP hS => ?_)
        have hw9 : ((r9.toInt = -9 ∧ (c 127 w.toNatClampNeg).toInt % 256 = 255) ∨ (0 ≤ r9.toInt ∧ r9.toInt ≤ 29 ∧ ¬ (c 127 w.toNatClampNeg).toInt % 256 = 255 ∧ r9.toInt = (c 127 w.toNatClampNeg).toInt / 8 % 32)) := hw9
        refine lv_goto (tgt := 85) hx hb dX11_place_73 (by decide +kernel) ?_
        exact ro_iret hx hb hr hlocks hS dX11_place_85 trivial
    · have f5 := fl_f hw4 c5
      refine lv_iconst (v := (-1)) hx hb dX11_place_19 (by decide +kernel) ?_
      exact ro_iret hx hb hr hlocks hS dX11_place_20 trivial

def wm_X11_exit : List Cond := .code yX11_exit cX11_exit 4 (some .int) :: ((([.fieldLink RX11 10 "TalePlay" "world" "LTalePlay$World;", .methodLink RX11 109 yX10_hasObject, .instanceMethod yX10_hasObject, .selects RX10 yX10_hasObject yX10_hasObject, .initialized RX10, .code yX10_hasObject cX10_hasObject 2 (some .boolean), .fieldLink RX10 37 "TalePlay$World" "objects" "I", .methodLink RX11 91 yX11_isBelow, .static yX11_isBelow, .initialized RX11, .code yX11_isBelow cX11_isBelow 2 (some .boolean), .methodLink RX11 125 yX10_sortOf, .instanceMethod yX10_sortOf, .selects RX10 yX10_sortOf yX10_sortOf, .code yX10_sortOf cX10_sortOf 2 (some .int), .fieldLink RX10 15 "TalePlay$World" "sorts" "[I"] : List Cond) ++ (([.fieldLink RX10 21 "TalePlay$World" "kindOf" "[I", .fieldLink RX11 30 "TalePlay" "roads" "LTalePlay$Roads;", .methodLink RX11 217 yX5_tellOf, .instanceMethod yX5_tellOf, .selects RX5 yX5_tellOf yX5_tellOf, .initialized RX5, .code yX5_tellOf cX5_tellOf 3 (some .int), .fieldLink RX5 18 "TalePlay$Roads" "bys" "[I", .fieldLink RX5 21 "TalePlay$Roads" "implied" "[I", .fieldLink RX5 9 "TalePlay$Roads" "leads" "[I", .fieldLink RX5 15 "TalePlay$Roads" "doors" "[I", .methodLink RX11 128 yX11_answerFinding, .instanceMethod yX11_answerFinding, .selects RX11 yX11_answerFinding yX11_answerFinding, .code yX11_answerFinding cX11_answerFinding 2 (some .int), .fieldLink RX11 72 "TalePlay" "latestFinding" "I"] : List Cond) ++ ([.fieldLink RX11 68 "TalePlay" "findingCounts" "[I"] : List Cond))) ++ wsX110 ++ wsX100 ++ wsX50)
set_option maxRecDepth 20000 in
theorem gm_X11_exit_X10_hasObject_109 : GoodIn wm_X11_exit (wsV RX11 109 RX10 yX10_hasObject wm_X10_hasObject) := goodIn_w (List.forall_mem_append.mpr ⟨List.forall_mem_cons.mpr ⟨List.mem_cons_of_mem _ (List.mem_append_left _ (List.mem_append_left _ (List.mem_append_left _ (List.mem_append_left _ (List.mem_of_getElem? (i := 1) rfl))))), List.forall_mem_cons.mpr ⟨List.mem_cons_of_mem _ (List.mem_append_left _ (List.mem_append_left _ (List.mem_append_left _ (List.mem_append_left _ (List.mem_of_getElem? (i := 2) rfl))))), List.forall_mem_cons.mpr ⟨List.mem_cons_of_mem _ (List.mem_append_left _ (List.mem_append_left _ (List.mem_append_left _ (List.mem_append_left _ (List.mem_of_getElem? (i := 3) rfl))))), List.forall_mem_cons.mpr ⟨List.mem_cons_of_mem _ (List.mem_append_left _ (List.mem_append_left _ (List.mem_append_left _ (List.mem_append_left _ (List.mem_of_getElem? (i := 4) rfl))))), (fun _ h => absurd h List.not_mem_nil)⟩⟩⟩⟩, List.forall_mem_cons.mpr ⟨List.mem_cons_of_mem _ (List.mem_append_left _ (List.mem_append_left _ (List.mem_append_left _ (List.mem_append_left _ (List.mem_of_getElem? (i := 5) rfl))))), List.forall_mem_append.mpr ⟨List.forall_mem_cons.mpr ⟨List.mem_cons_of_mem _ (List.mem_append_left _ (List.mem_append_left _ (List.mem_append_left _ (List.mem_append_left _ (List.mem_of_getElem? (i := 6) rfl))))), (fun _ h => absurd h List.not_mem_nil)⟩, (fun _ h => List.mem_cons_of_mem _ (List.mem_append_left _ (List.mem_append_right _ h)))⟩⟩⟩) (by decide +kernel)
set_option maxRecDepth 20000 in
theorem gm_X11_exit_X11_isBelow_91 : GoodIn wm_X11_exit (va_wsS RX11 91 yX11_isBelow wm_X11_isBelow) := goodIn_w (List.forall_mem_append.mpr ⟨List.forall_mem_cons.mpr ⟨List.mem_cons_of_mem _ (List.mem_append_left _ (List.mem_append_left _ (List.mem_append_left _ (List.mem_append_left _ (List.mem_of_getElem? (i := 7) rfl))))), List.forall_mem_cons.mpr ⟨List.mem_cons_of_mem _ (List.mem_append_left _ (List.mem_append_left _ (List.mem_append_left _ (List.mem_append_left _ (List.mem_of_getElem? (i := 8) rfl))))), List.forall_mem_cons.mpr ⟨List.mem_cons_of_mem _ (List.mem_append_left _ (List.mem_append_left _ (List.mem_append_left _ (List.mem_append_left _ (List.mem_of_getElem? (i := 9) rfl))))), (fun _ h => absurd h List.not_mem_nil)⟩⟩⟩, List.forall_mem_cons.mpr ⟨List.mem_cons_of_mem _ (List.mem_append_left _ (List.mem_append_left _ (List.mem_append_left _ (List.mem_append_left _ (List.mem_of_getElem? (i := 10) rfl))))), (fun _ h => absurd h List.not_mem_nil)⟩⟩) (by decide +kernel)
set_option maxRecDepth 20000 in
theorem gm_X11_exit_X10_sortOf_125 : GoodIn wm_X11_exit (wsV RX11 125 RX10 yX10_sortOf wm_X10_sortOf) := goodIn_w (List.forall_mem_append.mpr ⟨List.forall_mem_cons.mpr ⟨List.mem_cons_of_mem _ (List.mem_append_left _ (List.mem_append_left _ (List.mem_append_left _ (List.mem_append_left _ (List.mem_of_getElem? (i := 11) rfl))))), List.forall_mem_cons.mpr ⟨List.mem_cons_of_mem _ (List.mem_append_left _ (List.mem_append_left _ (List.mem_append_left _ (List.mem_append_left _ (List.mem_of_getElem? (i := 12) rfl))))), List.forall_mem_cons.mpr ⟨List.mem_cons_of_mem _ (List.mem_append_left _ (List.mem_append_left _ (List.mem_append_left _ (List.mem_append_left _ (List.mem_of_getElem? (i := 13) rfl))))), List.forall_mem_cons.mpr ⟨List.mem_cons_of_mem _ (List.mem_append_left _ (List.mem_append_left _ (List.mem_append_left _ (List.mem_append_left _ (List.mem_of_getElem? (i := 4) rfl))))), (fun _ h => absurd h List.not_mem_nil)⟩⟩⟩⟩, List.forall_mem_cons.mpr ⟨List.mem_cons_of_mem _ (List.mem_append_left _ (List.mem_append_left _ (List.mem_append_left _ (List.mem_append_left _ (List.mem_of_getElem? (i := 14) rfl))))), List.forall_mem_append.mpr ⟨List.forall_mem_cons.mpr ⟨List.mem_cons_of_mem _ (List.mem_append_left _ (List.mem_append_left _ (List.mem_append_left _ (List.mem_append_left _ (List.mem_of_getElem? (i := 6) rfl))))), List.forall_mem_cons.mpr ⟨List.mem_cons_of_mem _ (List.mem_append_left _ (List.mem_append_left _ (List.mem_append_left _ (List.mem_append_left _ (List.mem_of_getElem? (i := 15) rfl))))), List.forall_mem_cons.mpr ⟨List.mem_cons_of_mem _ (List.mem_append_left _ (List.mem_append_left _ (List.mem_append_left _ (List.mem_append_right _ (List.mem_append_left _ (List.mem_of_getElem? (i := 0) rfl)))))), (fun _ h => absurd h List.not_mem_nil)⟩⟩⟩, (fun _ h => List.mem_cons_of_mem _ (List.mem_append_left _ (List.mem_append_right _ h)))⟩⟩⟩) (by decide +kernel)
set_option maxRecDepth 20000 in
theorem gm_X11_exit_X5_tellOf_217 : GoodIn wm_X11_exit (wsV RX11 217 RX5 yX5_tellOf wm_X5_tellOf) := goodIn_w (List.forall_mem_append.mpr ⟨List.forall_mem_cons.mpr ⟨List.mem_cons_of_mem _ (List.mem_append_left _ (List.mem_append_left _ (List.mem_append_left _ (List.mem_append_right _ (List.mem_append_left _ (List.mem_of_getElem? (i := 2) rfl)))))), List.forall_mem_cons.mpr ⟨List.mem_cons_of_mem _ (List.mem_append_left _ (List.mem_append_left _ (List.mem_append_left _ (List.mem_append_right _ (List.mem_append_left _ (List.mem_of_getElem? (i := 3) rfl)))))), List.forall_mem_cons.mpr ⟨List.mem_cons_of_mem _ (List.mem_append_left _ (List.mem_append_left _ (List.mem_append_left _ (List.mem_append_right _ (List.mem_append_left _ (List.mem_of_getElem? (i := 4) rfl)))))), List.forall_mem_cons.mpr ⟨List.mem_cons_of_mem _ (List.mem_append_left _ (List.mem_append_left _ (List.mem_append_left _ (List.mem_append_right _ (List.mem_append_left _ (List.mem_of_getElem? (i := 5) rfl)))))), (fun _ h => absurd h List.not_mem_nil)⟩⟩⟩⟩, List.forall_mem_cons.mpr ⟨List.mem_cons_of_mem _ (List.mem_append_left _ (List.mem_append_left _ (List.mem_append_left _ (List.mem_append_right _ (List.mem_append_left _ (List.mem_of_getElem? (i := 6) rfl)))))), List.forall_mem_append.mpr ⟨List.forall_mem_cons.mpr ⟨List.mem_cons_of_mem _ (List.mem_append_left _ (List.mem_append_left _ (List.mem_append_left _ (List.mem_append_right _ (List.mem_append_left _ (List.mem_of_getElem? (i := 7) rfl)))))), List.forall_mem_cons.mpr ⟨List.mem_cons_of_mem _ (List.mem_append_left _ (List.mem_append_left _ (List.mem_append_left _ (List.mem_append_right _ (List.mem_append_left _ (List.mem_of_getElem? (i := 8) rfl)))))), List.forall_mem_cons.mpr ⟨List.mem_cons_of_mem _ (List.mem_append_left _ (List.mem_append_left _ (List.mem_append_left _ (List.mem_append_right _ (List.mem_append_left _ (List.mem_of_getElem? (i := 9) rfl)))))), List.forall_mem_cons.mpr ⟨List.mem_cons_of_mem _ (List.mem_append_left _ (List.mem_append_left _ (List.mem_append_left _ (List.mem_append_right _ (List.mem_append_left _ (List.mem_of_getElem? (i := 10) rfl)))))), (fun _ h => absurd h List.not_mem_nil)⟩⟩⟩⟩, (fun _ h => List.mem_cons_of_mem _ (List.mem_append_right _ h))⟩⟩⟩) (by decide +kernel)
set_option maxRecDepth 20000 in
theorem gm_X11_exit_X11_answerFinding_128 : GoodIn wm_X11_exit (wsV RX11 128 RX11 yX11_answerFinding wm_X11_answerFinding) := goodIn_w (List.forall_mem_append.mpr ⟨List.forall_mem_cons.mpr ⟨List.mem_cons_of_mem _ (List.mem_append_left _ (List.mem_append_left _ (List.mem_append_left _ (List.mem_append_right _ (List.mem_append_left _ (List.mem_of_getElem? (i := 11) rfl)))))), List.forall_mem_cons.mpr ⟨List.mem_cons_of_mem _ (List.mem_append_left _ (List.mem_append_left _ (List.mem_append_left _ (List.mem_append_right _ (List.mem_append_left _ (List.mem_of_getElem? (i := 12) rfl)))))), List.forall_mem_cons.mpr ⟨List.mem_cons_of_mem _ (List.mem_append_left _ (List.mem_append_left _ (List.mem_append_left _ (List.mem_append_right _ (List.mem_append_left _ (List.mem_of_getElem? (i := 13) rfl)))))), List.forall_mem_cons.mpr ⟨List.mem_cons_of_mem _ (List.mem_append_left _ (List.mem_append_left _ (List.mem_append_left _ (List.mem_append_left _ (List.mem_of_getElem? (i := 9) rfl))))), (fun _ h => absurd h List.not_mem_nil)⟩⟩⟩⟩, List.forall_mem_cons.mpr ⟨List.mem_cons_of_mem _ (List.mem_append_left _ (List.mem_append_left _ (List.mem_append_left _ (List.mem_append_right _ (List.mem_append_left _ (List.mem_of_getElem? (i := 14) rfl)))))), List.forall_mem_append.mpr ⟨List.forall_mem_cons.mpr ⟨List.mem_cons_of_mem _ (List.mem_append_left _ (List.mem_append_left _ (List.mem_append_left _ (List.mem_append_right _ (List.mem_append_left _ (List.mem_of_getElem? (i := 15) rfl)))))), List.forall_mem_cons.mpr ⟨List.mem_cons_of_mem _ (List.mem_append_left _ (List.mem_append_left _ (List.mem_append_left _ (List.mem_append_right _ (List.mem_append_right _ (List.mem_of_getElem? (i := 0) rfl)))))), (fun _ h => absurd h List.not_mem_nil)⟩⟩, (fun _ h => List.mem_cons_of_mem _ (List.mem_append_left _ (List.mem_append_left _ (List.mem_append_right _ h))))⟩⟩⟩) (by decide +kernel)
set_option maxHeartbeats 4000000 in
set_option maxRecDepth 100000 in
theorem x_X11_exit (l : Launch) (D : va_G) (sz : Nat) (sk : Value) (a : Nat → Nat) (t : Nat → ClassId) (i : Nat → Int32) (q : Int64) (c : Nat → Nat → Int32) (d : Nat → Nat → Int64) (w : Int32) (d1 : Int32) (w1 : Int32) (hI : xInv i c) : Met l yX11_exit wm_X11_exit ({ frames := 1, cells := 0, slots := 0, locals := 22 }) (va_Pc [.ref (a 100), .int w, .int d1, .int w1] (yB (a 186) D sz (xwT sk a t i q c d) (xtT t))) (va_Qi (fun (r : Int32) (u : MS) => True ∧ xInv u.1 u.2.2.1 ∧ (∀ k, k ∉ ([102] : List Nat) → u.1 k = i k) ∧ (∀ k, k ∉ ([101] : List Nat) → u.2.2.1 k = c k)) (oC D (va_A (xwT sk a t i q c d) sz) (fun u : MS => xwT sk a t u.1 u.2.1 u.2.2.1 u.2.2.2) (fun _ => [])) (va_A (xwT sk a t i q c d) sz)) 0 0 (va_A (xwT sk a t i q c d) sz) := by
  refine Met.ofW (cc := cX11_exit) (maxL := 4) (ret := (some .int)) (by decide +kernel) rfl ?_
  intro p e s m args below meth cd s₁ B hml hv
  obtain ⟨rfl, ⟨hsz, hP, hK, hD0⟩, hN, hZ, hBW⟩ := hv
  have hx := B.exec
  have hb := B.bytes
  have hr := B.returns
  have hts := atoms_spec (ws := wm_X11_exit) B.pre
  have hown : s.vm.findClass RX11 = some m.cls := findClass_of_methodNamed B.named
  have hlocks := B.notSynchronized
  subst hsz
  have hD := hD0.self (sz := s.heap.size)
  have hZ := xZ_A hZ hP hBW
  generalize hAe : va_A (xwT sk a t i q c d) s.heap.size = A at hD hZ ⊢
  have hA : ∀ q : Nat, s.heap.size ≤ q → A q := fun q h => by rw [← hAe]; exact Or.inr h
  have hS : va_S A s.heap s.heap [] := va_S.rf
  have hfi : ∀ k, k ∉ ([] : List Nat) → i k = i k := fun _ _ => rfl
  have hfc : ∀ k, k ∉ ([] : List Nat) → c k = c k := fun _ _ => rfl
  have hl := lv_entry ([.ref (a 100), .int w, .int d1, .int w1]) (n := 4) (Nat.le_of_ble_eq_true rfl)
  rw [lg_entry_eq]
  generalize (lg_sl ([.ref (a 100), .int w, .int d1, .int w1]) ++ List.replicate (4 - (lg_sl ([.ref (a 100), .int w, .int d1, .int w1])).length) Slot.unset).toArray = ls at hl ⊢
  have hl : lv_has ls 4 [(0, .ref (a 100)), (1, .int w), (2, .int d1), (3, .int w1)] := hl
  refine lv_aload_n hx hb dX11_exit_0 rfl (lv_at hl 0 rfl) ?_
  refine xgT_X_world hx hb hts (fun _ h => List.mem_cons_of_mem _ (List.mem_append_left _ (List.mem_append_left _ (List.mem_append_right _ h)))) hown hK hP (hts (.fieldLink RX11 10 "TalePlay" "world" "LTalePlay$World;") (List.mem_cons_of_mem _ (List.mem_append_left _ (List.mem_append_left _ (List.mem_append_left _ (List.mem_append_left _ (List.mem_of_getElem? (i := 0) rfl))))))) dX11_exit_1 ?_
  refine lv_iload_n hx hb dX11_exit_4 rfl (lv_at hl 1 rfl) ?_
  have rb111_i : 0 ≤ (i 111).toInt ∧ (i 111).toInt ≤ 30 := hI.1 111
  refine ro_calli (va_runV (As := [.int w]) (rest := []) ⟨hx, hb, hml, hown, hts⟩ (x_X10_hasObject l D s.heap.size .null a t i q c d w hI ) (cwV 1 hts gm_X11_exit_X10_hasObject_109 rfl rfl rfl (by decide +kernel) ⟨Nat.le_of_ble_eq_true rfl, Nat.le_of_ble_eq_true rfl⟩) (yA_V hN (xZ_k hZ hS hA) (xkT_W hK) (xuT_W (sk := sk) hP) (ci := 10) (q0 := 0) rfl rfl) rfl rfl hl.1 rfl (lv_room (Nat.le_of_ble_eq_true rfl)) dX11_exit_5 ⟨Nat.le_of_ble_eq_true rfl, Nat.le_of_ble_eq_true rfl⟩) hS hA hP (fun r1 u1 H locs hw1 hP hS => ?_)
  have hw1 : r1 = if (0 ≤ w.toInt ∧ w.toInt < (i 111).toInt) then 1 else 0 := hw1
  refine lv_if_eq (tgt := 28) hx hb dX11_exit_8 (by decide +kernel) (fun c2 => ?_) (fun c2 => ?_)
  · have f2 := fl_f hw1 c2
    refine lv_iconst (v := (-1)) hx hb dX11_exit_28 (by decide +kernel) ?_
    exact rw_iret (i, q, c, d) hx hb hr hlocks hS (hK.sub (tys' := []) [] rfl) hP hD dX11_exit_29 ⟨trivial, hI, fr_w hfi (by decide +kernel), fr_w hfc (by decide +kernel)⟩
  · have f2 := fl_t hw1 c2
    refine lv_iload_n hx hb dX11_exit_11 rfl (lv_at hl 2 rfl) ?_
    refine lv_bipush (v := 10) hx hb dX11_exit_12 (by decide +kernel) ?_
    have hPc := hP.sub (ws' := []) [] rfl
    have hKc := hK.sub (tys' := []) [] rfl
    refine ro_calli (va_runS (As := [.int d1, .int 10]) (rest := []) ⟨hx, hb, hml, hown, hts⟩ (c_X11_isBelow l D H.size d1 10 d1.toInt 10 rfl (by decide +kernel)) (va_cwS 2 hts gm_X11_exit_X11_isBelow_91 rfl rfl rfl (by decide +kernel) ⟨Nat.le_of_ble_eq_true rfl, Nat.le_of_ble_eq_true rfl⟩) (pA_S hKc hPc) rfl rfl hl.1 rfl (lv_room (Nat.le_of_ble_eq_true rfl)) dX11_exit_14 ⟨Nat.le_of_ble_eq_true rfl, Nat.le_of_ble_eq_true rfl⟩) hS hA hP (fun r4 u4 H locs hw4 hP hS => ?_)
    have hw4 : r4 = if (0 ≤ d1.toInt ∧ d1.toInt < 10) then 1 else 0 := hw4
    refine lv_if_eq (tgt := 28) hx hb dX11_exit_17 (by decide +kernel) (fun c5 => ?_) (fun c5 => ?_)
    · have f5 := fl_f hw4 c5
      refine lv_iconst (v := (-1)) hx hb dX11_exit_28 (by decide +kernel) ?_
      exact rw_iret (i, q, c, d) hx hb hr hlocks hS (hK.sub (tys' := []) [] rfl) hP hD dX11_exit_29 ⟨trivial, hI, fr_w hfi (by decide +kernel), fr_w hfc (by decide +kernel)⟩
    · have f5 := fl_t hw4 c5
      refine lv_iload_n hx hb dX11_exit_20 rfl (lv_at hl 3 rfl) ?_
      refine lv_iconst (v := 4) hx hb dX11_exit_21 (by decide +kernel) ?_
      have hPc := hP.sub (ws' := []) [] rfl
      have hKc := hK.sub (tys' := []) [] rfl
      refine ro_calli (va_runS (As := [.int w1, .int 4]) (rest := []) ⟨hx, hb, hml, hown, hts⟩ (c_X11_isBelow l D H.size w1 4 w1.toInt 4 rfl (by decide +kernel)) (va_cwS 2 hts gm_X11_exit_X11_isBelow_91 rfl rfl rfl (by decide +kernel) ⟨Nat.le_of_ble_eq_true rfl, Nat.le_of_ble_eq_true rfl⟩) (pA_S hKc hPc) rfl rfl hl.1 rfl (lv_room (Nat.le_of_ble_eq_true rfl)) dX11_exit_22 ⟨Nat.le_of_ble_eq_true rfl, Nat.le_of_ble_eq_true rfl⟩) hS hA hP (fun r7 u7 H locs hw7 hP hS => ?_)
      have hw7 : r7 = if (0 ≤ w1.toInt ∧ w1.toInt < 4) then 1 else 0 := hw7
      refine lv_if_ne (tgt := 30) hx hb dX11_exit_25 (by decide +kernel) (fun c8 => ?_) (fun c8 => ?_)
      · have f8 := fl_t hw7 c8
        refine lv_aload_n hx hb dX11_exit_30 rfl (lv_at hl 0 rfl) ?_
        refine xgT_X_world hx hb hts (fun _ h => List.mem_cons_of_mem _ (List.mem_append_left _ (List.mem_append_left _ (List.mem_append_right _ h)))) hown hK hP (hts (.fieldLink RX11 10 "TalePlay" "world" "LTalePlay$World;") (List.mem_cons_of_mem _ (List.mem_append_left _ (List.mem_append_left _ (List.mem_append_left _ (List.mem_append_left _ (List.mem_of_getElem? (i := 0) rfl))))))) dX11_exit_31 ?_
        refine lv_iload_n hx hb dX11_exit_34 rfl (lv_at hl 1 rfl) ?_
        refine ro_calli (va_runV (As := [.int w]) (rest := []) ⟨hx, hb, hml, hown, hts⟩ (x_X10_sortOf l D H.size .null a t i q c d w hI ) (cwV 1 hts gm_X11_exit_X10_sortOf_125 rfl rfl rfl (by decide +kernel) ⟨Nat.le_of_ble_eq_true rfl, Nat.le_of_ble_eq_true rfl⟩) (yA_V hN (xZ_k hZ hS hA) (xkT_W hK) (xuT_W (sk := sk) hP) (ci := 10) (q0 := 0) rfl rfl) rfl rfl hl.1 rfl (lv_room (Nat.le_of_ble_eq_true rfl)) dX11_exit_35 ⟨Nat.le_of_ble_eq_true rfl, Nat.le_of_ble_eq_true rfl⟩) hS hA hP (fun r9 u9 H locs hw9 hP hS => ?_)
        have hw9 : ((r9.toInt = -9 ∧ ¬ (0 ≤ w.toInt ∧ w.toInt < (i 111).toInt)) ∨ (0 ≤ r9.toInt ∧ r9.toInt ≤ 5 ∧ 0 ≤ w.toInt ∧ w.toInt < (i 111).toInt)) := hw9
        refine lv_if_eq (tgt := 47) hx hb dX11_exit_38 (by decide +kernel) (fun c10 => ?_) (fun c10 => ?_)
        · have f10 := (ti_eq (a := r9.toInt) (b := 0) rfl (by decide +kernel)).mp c10
          refine lv_aload_n hx hb dX11_exit_47 rfl (lv_at hl 0 rfl) ?_
          refine xgT_X_roads hx hb hts (fun _ h => List.mem_cons_of_mem _ (List.mem_append_left _ (List.mem_append_left _ (List.mem_append_right _ h)))) hown hK hP (hts (.fieldLink RX11 30 "TalePlay" "roads" "LTalePlay$Roads;") (List.mem_cons_of_mem _ (List.mem_append_left _ (List.mem_append_left _ (List.mem_append_left _ (List.mem_append_right _ (List.mem_append_left _ (List.mem_of_getElem? (i := 1) rfl)))))))) dX11_exit_48 ?_
          refine lv_iload_n hx hb dX11_exit_51 rfl (lv_at hl 1 rfl) ?_
          refine lv_bipush (v := 10) hx hb dX11_exit_52 (by decide +kernel) ?_
          refine lv_imul hx hb dX11_exit_54 ?_
          refine lv_topi (fun x11 ex11 => ?_)
          have tx11 := ti_mul (a := w.toInt) (b := 10) ex11 rfl (by decide +kernel) (by omega) (by omega)
          refine lv_iload_n hx hb dX11_exit_55 rfl (lv_at hl 2 rfl) ?_
          refine lv_iadd hx hb dX11_exit_56 ?_
          refine lv_topi (fun x12 ex12 => ?_)
          have tx12 := ti_add (a := (w.toInt * 10)) (b := d1.toInt) ex12 tx11 rfl (by omega) (by omega)
          refine lv_iload_n hx hb dX11_exit_57 rfl (lv_at hl 3 rfl) ?_
          refine ro_calli (va_runV (As := [.int x12, .int w1]) (rest := []) ⟨hx, hb, hml, hown, hts⟩ (x_X5_tellOf l D H.size .null a t i q c d x12 w1 hI (show 0 ≤ x12.toInt ∧ x12.toInt ≤ 299 from by have h90 : x12.toInt = ((w.toInt * 10) + d1.toInt) := tx12; omega)) (cwV 2 hts gm_X11_exit_X5_tellOf_217 rfl rfl rfl (by decide +kernel) ⟨Nat.le_of_ble_eq_true rfl, Nat.le_of_ble_eq_true rfl⟩) (yA_V hN (xZ_k hZ hS hA) (xkT_B hK) (xuT_B (sk := sk) hP) (ci := 5) (q0 := 19) rfl rfl) rfl rfl hl.1 rfl (lv_room (Nat.le_of_ble_eq_true rfl)) dX11_exit_58 ⟨Nat.le_of_ble_eq_true rfl, Nat.le_of_ble_eq_true rfl⟩) hS hA hP (fun r13 u13 H locs hw13 hP hS => ?_)
          exact rw_iret (i, q, c, d) hx hb hr hlocks hS (hK.sub (tys' := []) [] rfl) hP hD dX11_exit_61 ⟨trivial, hI, fr_w hfi (by decide +kernel), fr_w hfc (by decide +kernel)⟩
        · have f10 := mt (ti_eq (a := r9.toInt) (b := 0) rfl (by decide +kernel)).mpr c10
          refine lv_aload_n hx hb dX11_exit_41 rfl (lv_at hl 0 rfl) ?_
          refine lv_iconst (v := 3) hx hb dX11_exit_42 (by decide +kernel) ?_
          refine al_calli (va_runV (As := [.int 3]) (rest := []) ⟨hx, hb, hml, hown, hts⟩ (x_X11_answerFinding l D H.size sk a t i q c d 3 hI (show 1 ≤ 3 ∧ 3 ≤ 6 from by decide +kernel)) (cwV 1 hts gm_X11_exit_X11_answerFinding_128 rfl rfl rfl (by decide +kernel) ⟨Nat.le_of_ble_eq_true rfl, Nat.le_of_ble_eq_true rfl⟩) (yB_V hN (xZ_k hZ hS hA) (xZ_n hZ hD) hK hP hD (ci := 11) (q0 := 0) rfl rfl) rfl rfl hl.1 rfl (lv_room (Nat.le_of_ble_eq_true rfl)) dX11_exit_43 ⟨Nat.le_of_ble_eq_true rfl, Nat.le_of_ble_eq_true rfl⟩) hS hA hP hD (fun r14 u14 H locs hw14 hP hD hS => ?_)
          obtain ⟨i14, q14, c14, d14⟩ := u14
          have hw14 : r14 = (-3) ∧ xInv i14 c14 ∧ (∀ k, k ∉ ([102] : List Nat) → i14 k = i k) ∧ (∀ k, k ∉ ([101] : List Nat) → c14 k = c k) := hw14
          obtain ⟨hw14, hI, hei14, hec14⟩ := hw14
          have hfi : ∀ k, k ∉ ([102] : List Nat) → i14 k = i k := fr_z hfi hei14 (by decide +kernel) (by decide +kernel)
          have hfc : ∀ k, k ∉ ([101] : List Nat) → c14 k = c k := fr_z hfc hec14 (by decide +kernel) (by decide +kernel)
          have hw14 : r14 = (-3) := hw14
          subst hw14
          exact rw_iret (i14, q14, c14, d14) hx hb hr hlocks hS (hK.sub (tys' := []) [] rfl) hP hD dX11_exit_46 ⟨trivial, hI, fr_w hfi (by decide +kernel), fr_w hfc (by decide +kernel)⟩
      · have f8 := fl_f hw7 c8
        refine lv_iconst (v := (-1)) hx hb dX11_exit_28 (by decide +kernel) ?_
        exact rw_iret (i, q, c, d) hx hb hr hlocks hS (hK.sub (tys' := []) [] rfl) hP hD dX11_exit_29 ⟨trivial, hI, fr_w hfi (by decide +kernel), fr_w hfc (by decide +kernel)⟩

def wm_X11_flag : List Cond := .code yX11_flag cX11_flag 3 (some .int) :: ((([.fieldLink RX11 10 "TalePlay" "world" "LTalePlay$World;", .methodLink RX11 109 yX10_hasObject, .instanceMethod yX10_hasObject, .selects RX10 yX10_hasObject yX10_hasObject, .initialized RX10, .code yX10_hasObject cX10_hasObject 2 (some .boolean), .fieldLink RX10 37 "TalePlay$World" "objects" "I", .methodLink RX11 91 yX11_isBelow, .static yX11_isBelow, .initialized RX11, .code yX11_isBelow cX11_isBelow 2 (some .boolean), .methodLink RX11 220 yX10_canHave, .instanceMethod yX10_canHave, .selects RX10 yX10_canHave yX10_canHave, .code yX10_canHave cX10_canHave 3 (some .boolean), .methodLink RX10 48 yX10_isShutter] : List Cond) ++ (([.instanceMethod yX10_isShutter, .selects RX10 yX10_isShutter yX10_isShutter, .code yX10_isShutter cX10_isShutter 3 (some .boolean), .methodLink RX10 40 yX10_sortOf, .instanceMethod yX10_sortOf, .selects RX10 yX10_sortOf yX10_sortOf, .code yX10_sortOf cX10_sortOf 2 (some .int), .fieldLink RX10 15 "TalePlay$World" "sorts" "[I", .fieldLink RX10 21 "TalePlay$World" "kindOf" "[I", .methodLink RX10 44 yX10_isMovable, .instanceMethod yX10_isMovable, .selects RX10 yX10_isMovable yX10_isMovable, .code yX10_isMovable cX10_isMovable 3 (some .boolean), .methodLink RX10 51 yX10_isGoods, .instanceMethod yX10_isGoods, .selects RX10 yX10_isGoods yX10_isGoods] : List Cond) ++ (([.code yX10_isGoods cX10_isGoods 2 (some .boolean), .fieldLink RX11 21 "TalePlay" "book" "LTalePlay$Book;", .methodLink RX11 223 yX1_saidFlag, .instanceMethod yX1_saidFlag, .selects RX1 yX1_saidFlag yX1_saidFlag, .initialized RX1, .code yX1_saidFlag cX1_saidFlag 4 (some .int), .fieldLink RX1 34 "TalePlay$Book" "flagBy" "[I", .fieldLink RX1 21 "TalePlay$Book" "cs" "[I", .fieldLink RX1 43 "TalePlay$Book" "world" "LTalePlay$World;", .methodLink RX1 114 yX10_standardFor, .instanceMethod yX10_standardFor, .selects RX10 yX10_standardFor yX10_standardFor, .code yX10_standardFor cX10_standardFor 6 (some .int), .fieldLink RX10 18 "TalePlay$World" "standards" "[I", .fieldLink RX10 9 "TalePlay$World" "parents" "[I"] : List Cond) ++ ([.methodLink RX11 128 yX11_answerFinding, .instanceMethod yX11_answerFinding, .selects RX11 yX11_answerFinding yX11_answerFinding, .code yX11_answerFinding cX11_answerFinding 2 (some .int), .fieldLink RX11 72 "TalePlay" "latestFinding" "I", .fieldLink RX11 68 "TalePlay" "findingCounts" "[I"] : List Cond)))) ++ wsX110 ++ wsX100 ++ wsX10)
set_option maxRecDepth 20000 in
theorem gm_X11_flag_X10_hasObject_109 : GoodIn wm_X11_flag (wsV RX11 109 RX10 yX10_hasObject wm_X10_hasObject) := goodIn_w (List.forall_mem_append.mpr ⟨List.forall_mem_cons.mpr ⟨List.mem_cons_of_mem _ (List.mem_append_left _ (List.mem_append_left _ (List.mem_append_left _ (List.mem_append_left _ (List.mem_of_getElem? (i := 1) rfl))))), List.forall_mem_cons.mpr ⟨List.mem_cons_of_mem _ (List.mem_append_left _ (List.mem_append_left _ (List.mem_append_left _ (List.mem_append_left _ (List.mem_of_getElem? (i := 2) rfl))))), List.forall_mem_cons.mpr ⟨List.mem_cons_of_mem _ (List.mem_append_left _ (List.mem_append_left _ (List.mem_append_left _ (List.mem_append_left _ (List.mem_of_getElem? (i := 3) rfl))))), List.forall_mem_cons.mpr ⟨List.mem_cons_of_mem _ (List.mem_append_left _ (List.mem_append_left _ (List.mem_append_left _ (List.mem_append_left _ (List.mem_of_getElem? (i := 4) rfl))))), (fun _ h => absurd h List.not_mem_nil)⟩⟩⟩⟩, List.forall_mem_cons.mpr ⟨List.mem_cons_of_mem _ (List.mem_append_left _ (List.mem_append_left _ (List.mem_append_left _ (List.mem_append_left _ (List.mem_of_getElem? (i := 5) rfl))))), List.forall_mem_append.mpr ⟨List.forall_mem_cons.mpr ⟨List.mem_cons_of_mem _ (List.mem_append_left _ (List.mem_append_left _ (List.mem_append_left _ (List.mem_append_left _ (List.mem_of_getElem? (i := 6) rfl))))), (fun _ h => absurd h List.not_mem_nil)⟩, (fun _ h => List.mem_cons_of_mem _ (List.mem_append_left _ (List.mem_append_right _ h)))⟩⟩⟩) (by decide +kernel)
set_option maxRecDepth 20000 in
theorem gm_X11_flag_X11_isBelow_91 : GoodIn wm_X11_flag (va_wsS RX11 91 yX11_isBelow wm_X11_isBelow) := goodIn_w (List.forall_mem_append.mpr ⟨List.forall_mem_cons.mpr ⟨List.mem_cons_of_mem _ (List.mem_append_left _ (List.mem_append_left _ (List.mem_append_left _ (List.mem_append_left _ (List.mem_of_getElem? (i := 7) rfl))))), List.forall_mem_cons.mpr ⟨List.mem_cons_of_mem _ (List.mem_append_left _ (List.mem_append_left _ (List.mem_append_left _ (List.mem_append_left _ (List.mem_of_getElem? (i := 8) rfl))))), List.forall_mem_cons.mpr ⟨List.mem_cons_of_mem _ (List.mem_append_left _ (List.mem_append_left _ (List.mem_append_left _ (List.mem_append_left _ (List.mem_of_getElem? (i := 9) rfl))))), (fun _ h => absurd h List.not_mem_nil)⟩⟩⟩, List.forall_mem_cons.mpr ⟨List.mem_cons_of_mem _ (List.mem_append_left _ (List.mem_append_left _ (List.mem_append_left _ (List.mem_append_left _ (List.mem_of_getElem? (i := 10) rfl))))), (fun _ h => absurd h List.not_mem_nil)⟩⟩) (by decide +kernel)
set_option maxRecDepth 20000 in
theorem gm_X11_flag_X10_canHave_220 : GoodIn wm_X11_flag (wsV RX11 220 RX10 yX10_canHave wm_X10_canHave) := goodIn_w (List.forall_mem_append.mpr ⟨List.forall_mem_cons.mpr ⟨List.mem_cons_of_mem _ (List.mem_append_left _ (List.mem_append_left _ (List.mem_append_left _ (List.mem_append_left _ (List.mem_of_getElem? (i := 11) rfl))))), List.forall_mem_cons.mpr ⟨List.mem_cons_of_mem _ (List.mem_append_left _ (List.mem_append_left _ (List.mem_append_left _ (List.mem_append_left _ (List.mem_of_getElem? (i := 12) rfl))))), List.forall_mem_cons.mpr ⟨List.mem_cons_of_mem _ (List.mem_append_left _ (List.mem_append_left _ (List.mem_append_left _ (List.mem_append_left _ (List.mem_of_getElem? (i := 13) rfl))))), List.forall_mem_cons.mpr ⟨List.mem_cons_of_mem _ (List.mem_append_left _ (List.mem_append_left _ (List.mem_append_left _ (List.mem_append_left _ (List.mem_of_getElem? (i := 4) rfl))))), (fun _ h => absurd h List.not_mem_nil)⟩⟩⟩⟩, List.forall_mem_cons.mpr ⟨List.mem_cons_of_mem _ (List.mem_append_left _ (List.mem_append_left _ (List.mem_append_left _ (List.mem_append_left _ (List.mem_of_getElem? (i := 14) rfl))))), List.forall_mem_append.mpr ⟨List.forall_mem_append.mpr ⟨List.forall_mem_cons.mpr ⟨List.mem_cons_of_mem _ (List.mem_append_left _ (List.mem_append_left _ (List.mem_append_left _ (List.mem_append_left _ (List.mem_of_getElem? (i := 15) rfl))))), List.forall_mem_cons.mpr ⟨List.mem_cons_of_mem _ (List.mem_append_left _ (List.mem_append_left _ (List.mem_append_left _ (List.mem_append_right _ (List.mem_append_left _ (List.mem_of_getElem? (i := 0) rfl)))))), List.forall_mem_cons.mpr ⟨List.mem_cons_of_mem _ (List.mem_append_left _ (List.mem_append_left _ (List.mem_append_left _ (List.mem_append_right _ (List.mem_append_left _ (List.mem_of_getElem? (i := 1) rfl)))))), List.forall_mem_cons.mpr ⟨List.mem_cons_of_mem _ (List.mem_append_left _ (List.mem_append_left _ (List.mem_append_left _ (List.mem_append_left _ (List.mem_of_getElem? (i := 4) rfl))))), List.forall_mem_cons.mpr ⟨List.mem_cons_of_mem _ (List.mem_append_left _ (List.mem_append_left _ (List.mem_append_left _ (List.mem_append_right _ (List.mem_append_left _ (List.mem_of_getElem? (i := 2) rfl)))))), List.forall_mem_cons.mpr ⟨List.mem_cons_of_mem _ (List.mem_append_left _ (List.mem_append_left _ (List.mem_append_left _ (List.mem_append_right _ (List.mem_append_left _ (List.mem_of_getElem? (i := 3) rfl)))))), List.forall_mem_cons.mpr ⟨List.mem_cons_of_mem _ (List.mem_append_left _ (List.mem_append_left _ (List.mem_append_left _ (List.mem_append_right _ (List.mem_append_left _ (List.mem_of_getElem? (i := 4) rfl)))))), List.forall_mem_cons.mpr ⟨List.mem_cons_of_mem _ (List.mem_append_left _ (List.mem_append_left _ (List.mem_append_left _ (List.mem_append_right _ (List.mem_append_left _ (List.mem_of_getElem? (i := 5) rfl)))))), List.forall_mem_cons.mpr ⟨List.mem_cons_of_mem _ (List.mem_append_left _ (List.mem_append_left _ (List.mem_append_left _ (List.mem_append_right _ (List.mem_append_left _ (List.mem_of_getElem? (i := 6) rfl)))))), List.forall_mem_cons.mpr ⟨List.mem_cons_of_mem _ (List.mem_append_left _ (List.mem_append_left _ (List.mem_append_left _ (List.mem_append_left _ (List.mem_of_getElem? (i := 6) rfl))))), List.forall_mem_cons.mpr ⟨List.mem_cons_of_mem _ (List.mem_append_left _ (List.mem_append_left _ (List.mem_append_left _ (List.mem_append_right _ (List.mem_append_left _ (List.mem_of_getElem? (i := 7) rfl)))))), List.forall_mem_cons.mpr ⟨List.mem_cons_of_mem _ (List.mem_append_left _ (List.mem_append_left _ (List.mem_append_left _ (List.mem_append_right _ (List.mem_append_left _ (List.mem_of_getElem? (i := 8) rfl)))))), List.forall_mem_cons.mpr ⟨List.mem_cons_of_mem _ (List.mem_append_left _ (List.mem_append_left _ (List.mem_append_left _ (List.mem_append_right _ (List.mem_append_left _ (List.mem_of_getElem? (i := 9) rfl)))))), List.forall_mem_cons.mpr ⟨List.mem_cons_of_mem _ (List.mem_append_left _ (List.mem_append_left _ (List.mem_append_left _ (List.mem_append_right _ (List.mem_append_left _ (List.mem_of_getElem? (i := 10) rfl)))))), List.forall_mem_cons.mpr ⟨List.mem_cons_of_mem _ (List.mem_append_left _ (List.mem_append_left _ (List.mem_append_left _ (List.mem_append_right _ (List.mem_append_left _ (List.mem_of_getElem? (i := 11) rfl)))))), List.forall_mem_cons.mpr ⟨List.mem_cons_of_mem _ (List.mem_append_left _ (List.mem_append_left _ (List.mem_append_left _ (List.mem_append_right _ (List.mem_append_left _ (List.mem_of_getElem? (i := 12) rfl)))))), (fun _ h => absurd h List.not_mem_nil)⟩⟩⟩⟩⟩⟩⟩⟩⟩⟩⟩⟩⟩⟩⟩⟩, List.forall_mem_cons.mpr ⟨List.mem_cons_of_mem _ (List.mem_append_left _ (List.mem_append_left _ (List.mem_append_left _ (List.mem_append_right _ (List.mem_append_left _ (List.mem_of_getElem? (i := 13) rfl)))))), List.forall_mem_cons.mpr ⟨List.mem_cons_of_mem _ (List.mem_append_left _ (List.mem_append_left _ (List.mem_append_left _ (List.mem_append_right _ (List.mem_append_left _ (List.mem_of_getElem? (i := 14) rfl)))))), List.forall_mem_cons.mpr ⟨List.mem_cons_of_mem _ (List.mem_append_left _ (List.mem_append_left _ (List.mem_append_left _ (List.mem_append_right _ (List.mem_append_left _ (List.mem_of_getElem? (i := 15) rfl)))))), List.forall_mem_cons.mpr ⟨List.mem_cons_of_mem _ (List.mem_append_left _ (List.mem_append_left _ (List.mem_append_left _ (List.mem_append_right _ (List.mem_append_right _ (List.mem_append_left _ (List.mem_of_getElem? (i := 0) rfl))))))), (fun _ h => absurd h List.not_mem_nil)⟩⟩⟩⟩⟩, (fun _ h => List.mem_cons_of_mem _ (List.mem_append_left _ (List.mem_append_right _ h)))⟩⟩⟩) (by decide +kernel)
set_option maxRecDepth 20000 in
theorem gm_X11_flag_X1_saidFlag_223 : GoodIn wm_X11_flag (wsV RX11 223 RX1 yX1_saidFlag wm_X1_saidFlag) := goodIn_w (List.forall_mem_append.mpr ⟨List.forall_mem_cons.mpr ⟨List.mem_cons_of_mem _ (List.mem_append_left _ (List.mem_append_left _ (List.mem_append_left _ (List.mem_append_right _ (List.mem_append_right _ (List.mem_append_left _ (List.mem_of_getElem? (i := 2) rfl))))))), List.forall_mem_cons.mpr ⟨List.mem_cons_of_mem _ (List.mem_append_left _ (List.mem_append_left _ (List.mem_append_left _ (List.mem_append_right _ (List.mem_append_right _ (List.mem_append_left _ (List.mem_of_getElem? (i := 3) rfl))))))), List.forall_mem_cons.mpr ⟨List.mem_cons_of_mem _ (List.mem_append_left _ (List.mem_append_left _ (List.mem_append_left _ (List.mem_append_right _ (List.mem_append_right _ (List.mem_append_left _ (List.mem_of_getElem? (i := 4) rfl))))))), List.forall_mem_cons.mpr ⟨List.mem_cons_of_mem _ (List.mem_append_left _ (List.mem_append_left _ (List.mem_append_left _ (List.mem_append_right _ (List.mem_append_right _ (List.mem_append_left _ (List.mem_of_getElem? (i := 5) rfl))))))), (fun _ h => absurd h List.not_mem_nil)⟩⟩⟩⟩, List.forall_mem_cons.mpr ⟨List.mem_cons_of_mem _ (List.mem_append_left _ (List.mem_append_left _ (List.mem_append_left _ (List.mem_append_right _ (List.mem_append_right _ (List.mem_append_left _ (List.mem_of_getElem? (i := 6) rfl))))))), List.forall_mem_append.mpr ⟨List.forall_mem_append.mpr ⟨List.forall_mem_append.mpr ⟨List.forall_mem_cons.mpr ⟨List.mem_cons_of_mem _ (List.mem_append_left _ (List.mem_append_left _ (List.mem_append_left _ (List.mem_append_right _ (List.mem_append_right _ (List.mem_append_left _ (List.mem_of_getElem? (i := 7) rfl))))))), List.forall_mem_cons.mpr ⟨List.mem_cons_of_mem _ (List.mem_append_left _ (List.mem_append_left _ (List.mem_append_left _ (List.mem_append_right _ (List.mem_append_right _ (List.mem_append_left _ (List.mem_of_getElem? (i := 8) rfl))))))), List.forall_mem_cons.mpr ⟨List.mem_cons_of_mem _ (List.mem_append_left _ (List.mem_append_left _ (List.mem_append_left _ (List.mem_append_right _ (List.mem_append_right _ (List.mem_append_left _ (List.mem_of_getElem? (i := 9) rfl))))))), List.forall_mem_cons.mpr ⟨List.mem_cons_of_mem _ (List.mem_append_left _ (List.mem_append_left _ (List.mem_append_left _ (List.mem_append_right _ (List.mem_append_right _ (List.mem_append_left _ (List.mem_of_getElem? (i := 10) rfl))))))), List.forall_mem_cons.mpr ⟨List.mem_cons_of_mem _ (List.mem_append_left _ (List.mem_append_left _ (List.mem_append_left _ (List.mem_append_right _ (List.mem_append_right _ (List.mem_append_left _ (List.mem_of_getElem? (i := 11) rfl))))))), List.forall_mem_cons.mpr ⟨List.mem_cons_of_mem _ (List.mem_append_left _ (List.mem_append_left _ (List.mem_append_left _ (List.mem_append_right _ (List.mem_append_right _ (List.mem_append_left _ (List.mem_of_getElem? (i := 12) rfl))))))), List.forall_mem_cons.mpr ⟨List.mem_cons_of_mem _ (List.mem_append_left _ (List.mem_append_left _ (List.mem_append_left _ (List.mem_append_left _ (List.mem_of_getElem? (i := 4) rfl))))), List.forall_mem_cons.mpr ⟨List.mem_cons_of_mem _ (List.mem_append_left _ (List.mem_append_left _ (List.mem_append_left _ (List.mem_append_right _ (List.mem_append_right _ (List.mem_append_left _ (List.mem_of_getElem? (i := 13) rfl))))))), List.forall_mem_cons.mpr ⟨List.mem_cons_of_mem _ (List.mem_append_left _ (List.mem_append_left _ (List.mem_append_left _ (List.mem_append_right _ (List.mem_append_left _ (List.mem_of_getElem? (i := 8) rfl)))))), List.forall_mem_cons.mpr ⟨List.mem_cons_of_mem _ (List.mem_append_left _ (List.mem_append_left _ (List.mem_append_left _ (List.mem_append_right _ (List.mem_append_left _ (List.mem_of_getElem? (i := 3) rfl)))))), List.forall_mem_cons.mpr ⟨List.mem_cons_of_mem _ (List.mem_append_left _ (List.mem_append_left _ (List.mem_append_left _ (List.mem_append_right _ (List.mem_append_left _ (List.mem_of_getElem? (i := 4) rfl)))))), List.forall_mem_cons.mpr ⟨List.mem_cons_of_mem _ (List.mem_append_left _ (List.mem_append_left _ (List.mem_append_left _ (List.mem_append_right _ (List.mem_append_left _ (List.mem_of_getElem? (i := 5) rfl)))))), List.forall_mem_cons.mpr ⟨List.mem_cons_of_mem _ (List.mem_append_left _ (List.mem_append_left _ (List.mem_append_left _ (List.mem_append_right _ (List.mem_append_left _ (List.mem_of_getElem? (i := 6) rfl)))))), List.forall_mem_cons.mpr ⟨List.mem_cons_of_mem _ (List.mem_append_left _ (List.mem_append_left _ (List.mem_append_left _ (List.mem_append_left _ (List.mem_of_getElem? (i := 6) rfl))))), List.forall_mem_cons.mpr ⟨List.mem_cons_of_mem _ (List.mem_append_left _ (List.mem_append_left _ (List.mem_append_left _ (List.mem_append_right _ (List.mem_append_left _ (List.mem_of_getElem? (i := 7) rfl)))))), List.forall_mem_cons.mpr ⟨List.mem_cons_of_mem _ (List.mem_append_left _ (List.mem_append_left _ (List.mem_append_left _ (List.mem_append_right _ (List.mem_append_right _ (List.mem_append_left _ (List.mem_of_getElem? (i := 14) rfl))))))), (fun _ h => absurd h List.not_mem_nil)⟩⟩⟩⟩⟩⟩⟩⟩⟩⟩⟩⟩⟩⟩⟩⟩, List.forall_mem_cons.mpr ⟨List.mem_cons_of_mem _ (List.mem_append_left _ (List.mem_append_left _ (List.mem_append_left _ (List.mem_append_right _ (List.mem_append_right _ (List.mem_append_left _ (List.mem_of_getElem? (i := 15) rfl))))))), (fun _ h => absurd h List.not_mem_nil)⟩⟩, (fun _ h => List.mem_cons_of_mem _ (List.mem_append_right _ h))⟩, (fun _ h => List.mem_cons_of_mem _ (List.mem_append_left _ (List.mem_append_right _ h)))⟩⟩⟩) (by decide +kernel)
set_option maxRecDepth 20000 in
theorem gm_X11_flag_X11_answerFinding_128 : GoodIn wm_X11_flag (wsV RX11 128 RX11 yX11_answerFinding wm_X11_answerFinding) := goodIn_w (List.forall_mem_append.mpr ⟨List.forall_mem_cons.mpr ⟨List.mem_cons_of_mem _ (List.mem_append_left _ (List.mem_append_left _ (List.mem_append_left _ (List.mem_append_right _ (List.mem_append_right _ (List.mem_append_right _ (List.mem_of_getElem? (i := 0) rfl))))))), List.forall_mem_cons.mpr ⟨List.mem_cons_of_mem _ (List.mem_append_left _ (List.mem_append_left _ (List.mem_append_left _ (List.mem_append_right _ (List.mem_append_right _ (List.mem_append_right _ (List.mem_of_getElem? (i := 1) rfl))))))), List.forall_mem_cons.mpr ⟨List.mem_cons_of_mem _ (List.mem_append_left _ (List.mem_append_left _ (List.mem_append_left _ (List.mem_append_right _ (List.mem_append_right _ (List.mem_append_right _ (List.mem_of_getElem? (i := 2) rfl))))))), List.forall_mem_cons.mpr ⟨List.mem_cons_of_mem _ (List.mem_append_left _ (List.mem_append_left _ (List.mem_append_left _ (List.mem_append_left _ (List.mem_of_getElem? (i := 9) rfl))))), (fun _ h => absurd h List.not_mem_nil)⟩⟩⟩⟩, List.forall_mem_cons.mpr ⟨List.mem_cons_of_mem _ (List.mem_append_left _ (List.mem_append_left _ (List.mem_append_left _ (List.mem_append_right _ (List.mem_append_right _ (List.mem_append_right _ (List.mem_of_getElem? (i := 3) rfl))))))), List.forall_mem_append.mpr ⟨List.forall_mem_cons.mpr ⟨List.mem_cons_of_mem _ (List.mem_append_left _ (List.mem_append_left _ (List.mem_append_left _ (List.mem_append_right _ (List.mem_append_right _ (List.mem_append_right _ (List.mem_of_getElem? (i := 4) rfl))))))), List.forall_mem_cons.mpr ⟨List.mem_cons_of_mem _ (List.mem_append_left _ (List.mem_append_left _ (List.mem_append_left _ (List.mem_append_right _ (List.mem_append_right _ (List.mem_append_right _ (List.mem_of_getElem? (i := 5) rfl))))))), (fun _ h => absurd h List.not_mem_nil)⟩⟩, (fun _ h => List.mem_cons_of_mem _ (List.mem_append_left _ (List.mem_append_left _ (List.mem_append_right _ h))))⟩⟩⟩) (by decide +kernel)
set_option maxHeartbeats 4000000 in
set_option maxRecDepth 100000 in
theorem x_X11_flag (l : Launch) (D : va_G) (sz : Nat) (sk : Value) (a : Nat → Nat) (t : Nat → ClassId) (i : Nat → Int32) (q : Int64) (c : Nat → Nat → Int32) (d : Nat → Nat → Int64) (w : Int32) (f : Int32) (hI : xInv i c) : Met l yX11_flag wm_X11_flag ({ frames := 4, cells := 0, slots := 0, locals := 86 }) (va_Pc [.ref (a 100), .int w, .int f] (yB (a 186) D sz (xwT sk a t i q c d) (xtT t))) (va_Qi (fun (r : Int32) (u : MS) => True ∧ xInv u.1 u.2.2.1 ∧ (∀ k, k ∉ ([102] : List Nat) → u.1 k = i k) ∧ (∀ k, k ∉ ([101] : List Nat) → u.2.2.1 k = c k)) (oC D (va_A (xwT sk a t i q c d) sz) (fun u : MS => xwT sk a t u.1 u.2.1 u.2.2.1 u.2.2.2) (fun _ => [])) (va_A (xwT sk a t i q c d) sz)) 0 0 (va_A (xwT sk a t i q c d) sz) := by
  refine Met.ofW (cc := cX11_flag) (maxL := 3) (ret := (some .int)) (by decide +kernel) rfl ?_
  intro p e s m args below meth cd s₁ B hml hv
  obtain ⟨rfl, ⟨hsz, hP, hK, hD0⟩, hN, hZ, hBW⟩ := hv
  have hx := B.exec
  have hb := B.bytes
  have hr := B.returns
  have hts := atoms_spec (ws := wm_X11_flag) B.pre
  have hown : s.vm.findClass RX11 = some m.cls := findClass_of_methodNamed B.named
  have hlocks := B.notSynchronized
  subst hsz
  have hD := hD0.self (sz := s.heap.size)
  have hZ := xZ_A hZ hP hBW
  generalize hAe : va_A (xwT sk a t i q c d) s.heap.size = A at hD hZ ⊢
  have hA : ∀ q : Nat, s.heap.size ≤ q → A q := fun q h => by rw [← hAe]; exact Or.inr h
  have hS : va_S A s.heap s.heap [] := va_S.rf
  have hfi : ∀ k, k ∉ ([] : List Nat) → i k = i k := fun _ _ => rfl
  have hfc : ∀ k, k ∉ ([] : List Nat) → c k = c k := fun _ _ => rfl
  have hl := lv_entry ([.ref (a 100), .int w, .int f]) (n := 3) (Nat.le_of_ble_eq_true rfl)
  rw [lg_entry_eq]
  generalize (lg_sl ([.ref (a 100), .int w, .int f]) ++ List.replicate (3 - (lg_sl ([.ref (a 100), .int w, .int f])).length) Slot.unset).toArray = ls at hl ⊢
  have hl : lv_has ls 3 [(0, .ref (a 100)), (1, .int w), (2, .int f)] := hl
  refine lv_aload_n hx hb dX11_flag_0 rfl (lv_at hl 0 rfl) ?_
  refine xgT_X_world hx hb hts (fun _ h => List.mem_cons_of_mem _ (List.mem_append_left _ (List.mem_append_left _ (List.mem_append_right _ h)))) hown hK hP (hts (.fieldLink RX11 10 "TalePlay" "world" "LTalePlay$World;") (List.mem_cons_of_mem _ (List.mem_append_left _ (List.mem_append_left _ (List.mem_append_left _ (List.mem_append_left _ (List.mem_of_getElem? (i := 0) rfl))))))) dX11_flag_1 ?_
  refine lv_iload_n hx hb dX11_flag_4 rfl (lv_at hl 1 rfl) ?_
  have rb111_i : 0 ≤ (i 111).toInt ∧ (i 111).toInt ≤ 30 := hI.1 111
  refine ro_calli (va_runV (As := [.int w]) (rest := []) ⟨hx, hb, hml, hown, hts⟩ (x_X10_hasObject l D s.heap.size .null a t i q c d w hI ) (cwV 1 hts gm_X11_flag_X10_hasObject_109 rfl rfl rfl (by decide +kernel) ⟨Nat.le_of_ble_eq_true rfl, Nat.le_of_ble_eq_true rfl⟩) (yA_V hN (xZ_k hZ hS hA) (xkT_W hK) (xuT_W (sk := sk) hP) (ci := 10) (q0 := 0) rfl rfl) rfl rfl hl.1 rfl (lv_room (Nat.le_of_ble_eq_true rfl)) dX11_flag_5 ⟨Nat.le_of_ble_eq_true rfl, Nat.le_of_ble_eq_true rfl⟩) hS hA hP (fun r1 u1 H locs hw1 hP hS => ?_)
  have hw1 : r1 = if (0 ≤ w.toInt ∧ w.toInt < (i 111).toInt) then 1 else 0 := hw1
  refine lv_if_eq (tgt := 20) hx hb dX11_flag_8 (by decide +kernel) (fun c2 => ?_) (fun c2 => ?_)
  · have f2 := fl_f hw1 c2
    refine lv_iconst (v := (-1)) hx hb dX11_flag_20 (by decide +kernel) ?_
    exact rw_iret (i, q, c, d) hx hb hr hlocks hS (hK.sub (tys' := []) [] rfl) hP hD dX11_flag_21 ⟨trivial, hI, fr_w hfi (by decide +kernel), fr_w hfc (by decide +kernel)⟩
  · have f2 := fl_t hw1 c2
    refine lv_iload_n hx hb dX11_flag_11 rfl (lv_at hl 2 rfl) ?_
    refine lv_bipush (v := 6) hx hb dX11_flag_12 (by decide +kernel) ?_
    have hPc := hP.sub (ws' := []) [] rfl
    have hKc := hK.sub (tys' := []) [] rfl
    refine ro_calli (va_runS (As := [.int f, .int 6]) (rest := []) ⟨hx, hb, hml, hown, hts⟩ (c_X11_isBelow l D H.size f 6 f.toInt 6 rfl (by decide +kernel)) (va_cwS 2 hts gm_X11_flag_X11_isBelow_91 rfl rfl rfl (by decide +kernel) ⟨Nat.le_of_ble_eq_true rfl, Nat.le_of_ble_eq_true rfl⟩) (pA_S hKc hPc) rfl rfl hl.1 rfl (lv_room (Nat.le_of_ble_eq_true rfl)) dX11_flag_14 ⟨Nat.le_of_ble_eq_true rfl, Nat.le_of_ble_eq_true rfl⟩) hS hA hP (fun r4 u4 H locs hw4 hP hS => ?_)
    have hw4 : r4 = if (0 ≤ f.toInt ∧ f.toInt < 6) then 1 else 0 := hw4
    refine lv_if_ne (tgt := 22) hx hb dX11_flag_17 (by decide +kernel) (fun c5 => ?_) (fun c5 => ?_)
    · have f5 := fl_t hw4 c5
      refine lv_aload_n hx hb dX11_flag_22 rfl (lv_at hl 0 rfl) ?_
      refine xgT_X_world hx hb hts (fun _ h => List.mem_cons_of_mem _ (List.mem_append_left _ (List.mem_append_left _ (List.mem_append_right _ h)))) hown hK hP (hts (.fieldLink RX11 10 "TalePlay" "world" "LTalePlay$World;") (List.mem_cons_of_mem _ (List.mem_append_left _ (List.mem_append_left _ (List.mem_append_left _ (List.mem_append_left _ (List.mem_of_getElem? (i := 0) rfl))))))) dX11_flag_23 ?_
      refine lv_iload_n hx hb dX11_flag_26 rfl (lv_at hl 1 rfl) ?_
      refine lv_iload_n hx hb dX11_flag_27 rfl (lv_at hl 2 rfl) ?_
      refine ro_calli (va_runV (As := [.int w, .int f]) (rest := []) ⟨hx, hb, hml, hown, hts⟩ (x_X10_canHave l D H.size .null a t i q c d w f hI ) (cwV 2 hts gm_X11_flag_X10_canHave_220 rfl rfl rfl (by decide +kernel) ⟨Nat.le_of_ble_eq_true rfl, Nat.le_of_ble_eq_true rfl⟩) (yA_V hN (xZ_k hZ hS hA) (xkT_W hK) (xuT_W (sk := sk) hP) (ci := 10) (q0 := 0) rfl rfl) rfl rfl hl.1 rfl (lv_room (Nat.le_of_ble_eq_true rfl)) dX11_flag_28 ⟨Nat.le_of_ble_eq_true rfl, Nat.le_of_ble_eq_true rfl⟩) hS hA hP (fun r6 u6 H locs hw6 hP hS => ?_)
      have hw6 : (0 ≤ r6.toInt ∧ r6.toInt ≤ 1) := hw6
      refine lv_if_ne (tgt := 40) hx hb dX11_flag_31 (by decide +kernel) (fun c7 => ?_) (fun c7 => ?_)
      · have f7 := mt (ti_eq (a := r6.toInt) (b := 0) rfl (by decide +kernel)).mpr c7
        refine lv_aload_n hx hb dX11_flag_40 rfl (lv_at hl 0 rfl) ?_
        refine xgT_X_book hx hb hts (fun _ h => List.mem_cons_of_mem _ (List.mem_append_left _ (List.mem_append_left _ (List.mem_append_right _ h)))) hown hK hP (hts (.fieldLink RX11 21 "TalePlay" "book" "LTalePlay$Book;") (List.mem_cons_of_mem _ (List.mem_append_left _ (List.mem_append_left _ (List.mem_append_left _ (List.mem_append_right _ (List.mem_append_right _ (List.mem_append_left _ (List.mem_of_getElem? (i := 1) rfl))))))))) dX11_flag_41 ?_
        refine lv_iload_n hx hb dX11_flag_44 rfl (lv_at hl 1 rfl) ?_
        refine lv_iload_n hx hb dX11_flag_45 rfl (lv_at hl 2 rfl) ?_
        refine ro_calli (va_runV (As := [.int w, .int f]) (rest := []) ⟨hx, hb, hml, hown, hts⟩ (x_X1_saidFlag l D H.size .null a t i q c d w f hI (show 0 ≤ w.toInt ∧ w.toInt ≤ 29 from by omega) (show 0 ≤ f.toInt ∧ f.toInt ≤ 5 from by omega)) (cwV 2 hts gm_X11_flag_X1_saidFlag_223 rfl rfl rfl (by decide +kernel) ⟨Nat.le_of_ble_eq_true rfl, Nat.le_of_ble_eq_true rfl⟩) (yA_V hN (xZ_k hZ hS hA) (xkT_B hK) (xuT_B (sk := sk) hP) (ci := 1) (q0 := 6) rfl rfl) rfl rfl hl.1 rfl (lv_room (Nat.le_of_ble_eq_true rfl)) dX11_flag_46 ⟨Nat.le_of_ble_eq_true rfl, Nat.le_of_ble_eq_true rfl⟩) hS hA hP (fun r8 u8 H locs hw8 hP hS => ?_)
        have hw8 : (r8.toInt = -9 ∨ (0 ≤ r8.toInt ∧ r8.toInt ≤ 9)) := hw8
        exact rw_iret (i, q, c, d) hx hb hr hlocks hS (hK.sub (tys' := []) [] rfl) hP hD dX11_flag_49 ⟨trivial, hI, fr_w hfi (by decide +kernel), fr_w hfc (by decide +kernel)⟩
      · have f7 := (ti_eq (a := r6.toInt) (b := 0) rfl (by decide +kernel)).mp c7
        refine lv_aload_n hx hb dX11_flag_34 rfl (lv_at hl 0 rfl) ?_
        refine lv_iconst (v := 3) hx hb dX11_flag_35 (by decide +kernel) ?_
        refine al_calli (va_runV (As := [.int 3]) (rest := []) ⟨hx, hb, hml, hown, hts⟩ (x_X11_answerFinding l D H.size sk a t i q c d 3 hI (show 1 ≤ 3 ∧ 3 ≤ 6 from by decide +kernel)) (cwV 1 hts gm_X11_flag_X11_answerFinding_128 rfl rfl rfl (by decide +kernel) ⟨Nat.le_of_ble_eq_true rfl, Nat.le_of_ble_eq_true rfl⟩) (yB_V hN (xZ_k hZ hS hA) (xZ_n hZ hD) hK hP hD (ci := 11) (q0 := 0) rfl rfl) rfl rfl hl.1 rfl (lv_room (Nat.le_of_ble_eq_true rfl)) dX11_flag_36 ⟨Nat.le_of_ble_eq_true rfl, Nat.le_of_ble_eq_true rfl⟩) hS hA hP hD (fun r9 u9 H locs hw9 hP hD hS => ?_)
        obtain ⟨i9, q9, c9, d9⟩ := u9
        have hw9 : r9 = (-3) ∧ xInv i9 c9 ∧ (∀ k, k ∉ ([102] : List Nat) → i9 k = i k) ∧ (∀ k, k ∉ ([101] : List Nat) → c9 k = c k) := hw9
        obtain ⟨hw9, hI, hei9, hec9⟩ := hw9
        have hfi : ∀ k, k ∉ ([102] : List Nat) → i9 k = i k := fr_z hfi hei9 (by decide +kernel) (by decide +kernel)
        have hfc : ∀ k, k ∉ ([101] : List Nat) → c9 k = c k := fr_z hfc hec9 (by decide +kernel) (by decide +kernel)
        have hw9 : r9 = (-3) := hw9
        subst hw9
        exact rw_iret (i9, q9, c9, d9) hx hb hr hlocks hS (hK.sub (tys' := []) [] rfl) hP hD dX11_flag_39 ⟨trivial, hI, fr_w hfi (by decide +kernel), fr_w hfc (by decide +kernel)⟩
    · have f5 := fl_f hw4 c5
      refine lv_iconst (v := (-1)) hx hb dX11_flag_20 (by decide +kernel) ?_
      exact rw_iret (i, q, c, d) hx hb hr hlocks hS (hK.sub (tys' := []) [] rfl) hP hD dX11_flag_21 ⟨trivial, hI, fr_w hfi (by decide +kernel), fr_w hfc (by decide +kernel)⟩

def wm_X11_key : List Cond := .code yX11_key cX11_key 2 (some .int) :: ((([.fieldLink RX11 10 "TalePlay" "world" "LTalePlay$World;", .methodLink RX11 109 yX10_hasObject, .instanceMethod yX10_hasObject, .selects RX10 yX10_hasObject yX10_hasObject, .initialized RX10, .code yX10_hasObject cX10_hasObject 2 (some .boolean), .fieldLink RX10 37 "TalePlay$World" "objects" "I", .methodLink RX11 226 yX10_isShutter, .instanceMethod yX10_isShutter, .selects RX10 yX10_isShutter yX10_isShutter, .code yX10_isShutter cX10_isShutter 3 (some .boolean), .methodLink RX10 40 yX10_sortOf, .instanceMethod yX10_sortOf, .selects RX10 yX10_sortOf yX10_sortOf, .code yX10_sortOf cX10_sortOf 2 (some .int), .fieldLink RX10 15 "TalePlay$World" "sorts" "[I"] : List Cond) ++ ([.fieldLink RX10 21 "TalePlay$World" "kindOf" "[I", .fieldLink RX11 21 "TalePlay" "book" "LTalePlay$Book;", .methodLink RX11 229 yX1_keyOf, .instanceMethod yX1_keyOf, .selects RX1 yX1_keyOf yX1_keyOf, .initialized RX1, .code yX1_keyOf cX1_keyOf 3 (some .int), .fieldLink RX1 37 "TalePlay$Book" "keyBy" "[I", .fieldLink RX1 15 "TalePlay$Book" "as" "[I", .methodLink RX11 128 yX11_answerFinding, .instanceMethod yX11_answerFinding, .selects RX11 yX11_answerFinding yX11_answerFinding, .initialized RX11, .code yX11_answerFinding cX11_answerFinding 2 (some .int), .fieldLink RX11 72 "TalePlay" "latestFinding" "I", .fieldLink RX11 68 "TalePlay" "findingCounts" "[I"] : List Cond)) ++ wsX110 ++ wsX100 ++ wsX10)
set_option maxRecDepth 20000 in
theorem gm_X11_key_X10_hasObject_109 : GoodIn wm_X11_key (wsV RX11 109 RX10 yX10_hasObject wm_X10_hasObject) := goodIn_w (List.forall_mem_append.mpr ⟨List.forall_mem_cons.mpr ⟨List.mem_cons_of_mem _ (List.mem_append_left _ (List.mem_append_left _ (List.mem_append_left _ (List.mem_append_left _ (List.mem_of_getElem? (i := 1) rfl))))), List.forall_mem_cons.mpr ⟨List.mem_cons_of_mem _ (List.mem_append_left _ (List.mem_append_left _ (List.mem_append_left _ (List.mem_append_left _ (List.mem_of_getElem? (i := 2) rfl))))), List.forall_mem_cons.mpr ⟨List.mem_cons_of_mem _ (List.mem_append_left _ (List.mem_append_left _ (List.mem_append_left _ (List.mem_append_left _ (List.mem_of_getElem? (i := 3) rfl))))), List.forall_mem_cons.mpr ⟨List.mem_cons_of_mem _ (List.mem_append_left _ (List.mem_append_left _ (List.mem_append_left _ (List.mem_append_left _ (List.mem_of_getElem? (i := 4) rfl))))), (fun _ h => absurd h List.not_mem_nil)⟩⟩⟩⟩, List.forall_mem_cons.mpr ⟨List.mem_cons_of_mem _ (List.mem_append_left _ (List.mem_append_left _ (List.mem_append_left _ (List.mem_append_left _ (List.mem_of_getElem? (i := 5) rfl))))), List.forall_mem_append.mpr ⟨List.forall_mem_cons.mpr ⟨List.mem_cons_of_mem _ (List.mem_append_left _ (List.mem_append_left _ (List.mem_append_left _ (List.mem_append_left _ (List.mem_of_getElem? (i := 6) rfl))))), (fun _ h => absurd h List.not_mem_nil)⟩, (fun _ h => List.mem_cons_of_mem _ (List.mem_append_left _ (List.mem_append_right _ h)))⟩⟩⟩) (by decide +kernel)
set_option maxRecDepth 20000 in
theorem gm_X11_key_X10_isShutter_226 : GoodIn wm_X11_key (wsV RX11 226 RX10 yX10_isShutter wm_X10_isShutter) := goodIn_w (List.forall_mem_append.mpr ⟨List.forall_mem_cons.mpr ⟨List.mem_cons_of_mem _ (List.mem_append_left _ (List.mem_append_left _ (List.mem_append_left _ (List.mem_append_left _ (List.mem_of_getElem? (i := 7) rfl))))), List.forall_mem_cons.mpr ⟨List.mem_cons_of_mem _ (List.mem_append_left _ (List.mem_append_left _ (List.mem_append_left _ (List.mem_append_left _ (List.mem_of_getElem? (i := 8) rfl))))), List.forall_mem_cons.mpr ⟨List.mem_cons_of_mem _ (List.mem_append_left _ (List.mem_append_left _ (List.mem_append_left _ (List.mem_append_left _ (List.mem_of_getElem? (i := 9) rfl))))), List.forall_mem_cons.mpr ⟨List.mem_cons_of_mem _ (List.mem_append_left _ (List.mem_append_left _ (List.mem_append_left _ (List.mem_append_left _ (List.mem_of_getElem? (i := 4) rfl))))), (fun _ h => absurd h List.not_mem_nil)⟩⟩⟩⟩, List.forall_mem_cons.mpr ⟨List.mem_cons_of_mem _ (List.mem_append_left _ (List.mem_append_left _ (List.mem_append_left _ (List.mem_append_left _ (List.mem_of_getElem? (i := 10) rfl))))), List.forall_mem_append.mpr ⟨List.forall_mem_cons.mpr ⟨List.mem_cons_of_mem _ (List.mem_append_left _ (List.mem_append_left _ (List.mem_append_left _ (List.mem_append_left _ (List.mem_of_getElem? (i := 11) rfl))))), List.forall_mem_cons.mpr ⟨List.mem_cons_of_mem _ (List.mem_append_left _ (List.mem_append_left _ (List.mem_append_left _ (List.mem_append_left _ (List.mem_of_getElem? (i := 12) rfl))))), List.forall_mem_cons.mpr ⟨List.mem_cons_of_mem _ (List.mem_append_left _ (List.mem_append_left _ (List.mem_append_left _ (List.mem_append_left _ (List.mem_of_getElem? (i := 13) rfl))))), List.forall_mem_cons.mpr ⟨List.mem_cons_of_mem _ (List.mem_append_left _ (List.mem_append_left _ (List.mem_append_left _ (List.mem_append_left _ (List.mem_of_getElem? (i := 4) rfl))))), List.forall_mem_cons.mpr ⟨List.mem_cons_of_mem _ (List.mem_append_left _ (List.mem_append_left _ (List.mem_append_left _ (List.mem_append_left _ (List.mem_of_getElem? (i := 14) rfl))))), List.forall_mem_cons.mpr ⟨List.mem_cons_of_mem _ (List.mem_append_left _ (List.mem_append_left _ (List.mem_append_left _ (List.mem_append_left _ (List.mem_of_getElem? (i := 6) rfl))))), List.forall_mem_cons.mpr ⟨List.mem_cons_of_mem _ (List.mem_append_left _ (List.mem_append_left _ (List.mem_append_left _ (List.mem_append_left _ (List.mem_of_getElem? (i := 15) rfl))))), List.forall_mem_cons.mpr ⟨List.mem_cons_of_mem _ (List.mem_append_left _ (List.mem_append_left _ (List.mem_append_left _ (List.mem_append_right _ (List.mem_of_getElem? (i := 0) rfl))))), (fun _ h => absurd h List.not_mem_nil)⟩⟩⟩⟩⟩⟩⟩⟩, (fun _ h => List.mem_cons_of_mem _ (List.mem_append_left _ (List.mem_append_right _ h)))⟩⟩⟩) (by decide +kernel)
set_option maxRecDepth 20000 in
theorem gm_X11_key_X1_keyOf_229 : GoodIn wm_X11_key (wsV RX11 229 RX1 yX1_keyOf wm_X1_keyOf) := goodIn_w (List.forall_mem_append.mpr ⟨List.forall_mem_cons.mpr ⟨List.mem_cons_of_mem _ (List.mem_append_left _ (List.mem_append_left _ (List.mem_append_left _ (List.mem_append_right _ (List.mem_of_getElem? (i := 2) rfl))))), List.forall_mem_cons.mpr ⟨List.mem_cons_of_mem _ (List.mem_append_left _ (List.mem_append_left _ (List.mem_append_left _ (List.mem_append_right _ (List.mem_of_getElem? (i := 3) rfl))))), List.forall_mem_cons.mpr ⟨List.mem_cons_of_mem _ (List.mem_append_left _ (List.mem_append_left _ (List.mem_append_left _ (List.mem_append_right _ (List.mem_of_getElem? (i := 4) rfl))))), List.forall_mem_cons.mpr ⟨List.mem_cons_of_mem _ (List.mem_append_left _ (List.mem_append_left _ (List.mem_append_left _ (List.mem_append_right _ (List.mem_of_getElem? (i := 5) rfl))))), (fun _ h => absurd h List.not_mem_nil)⟩⟩⟩⟩, List.forall_mem_cons.mpr ⟨List.mem_cons_of_mem _ (List.mem_append_left _ (List.mem_append_left _ (List.mem_append_left _ (List.mem_append_right _ (List.mem_of_getElem? (i := 6) rfl))))), List.forall_mem_append.mpr ⟨List.forall_mem_cons.mpr ⟨List.mem_cons_of_mem _ (List.mem_append_left _ (List.mem_append_left _ (List.mem_append_left _ (List.mem_append_right _ (List.mem_of_getElem? (i := 7) rfl))))), List.forall_mem_cons.mpr ⟨List.mem_cons_of_mem _ (List.mem_append_left _ (List.mem_append_left _ (List.mem_append_left _ (List.mem_append_right _ (List.mem_of_getElem? (i := 8) rfl))))), (fun _ h => absurd h List.not_mem_nil)⟩⟩, (fun _ h => List.mem_cons_of_mem _ (List.mem_append_right _ h))⟩⟩⟩) (by decide +kernel)
set_option maxRecDepth 20000 in
theorem gm_X11_key_X11_answerFinding_128 : GoodIn wm_X11_key (wsV RX11 128 RX11 yX11_answerFinding wm_X11_answerFinding) := goodIn_w (List.forall_mem_append.mpr ⟨List.forall_mem_cons.mpr ⟨List.mem_cons_of_mem _ (List.mem_append_left _ (List.mem_append_left _ (List.mem_append_left _ (List.mem_append_right _ (List.mem_of_getElem? (i := 9) rfl))))), List.forall_mem_cons.mpr ⟨List.mem_cons_of_mem _ (List.mem_append_left _ (List.mem_append_left _ (List.mem_append_left _ (List.mem_append_right _ (List.mem_of_getElem? (i := 10) rfl))))), List.forall_mem_cons.mpr ⟨List.mem_cons_of_mem _ (List.mem_append_left _ (List.mem_append_left _ (List.mem_append_left _ (List.mem_append_right _ (List.mem_of_getElem? (i := 11) rfl))))), List.forall_mem_cons.mpr ⟨List.mem_cons_of_mem _ (List.mem_append_left _ (List.mem_append_left _ (List.mem_append_left _ (List.mem_append_right _ (List.mem_of_getElem? (i := 12) rfl))))), (fun _ h => absurd h List.not_mem_nil)⟩⟩⟩⟩, List.forall_mem_cons.mpr ⟨List.mem_cons_of_mem _ (List.mem_append_left _ (List.mem_append_left _ (List.mem_append_left _ (List.mem_append_right _ (List.mem_of_getElem? (i := 13) rfl))))), List.forall_mem_append.mpr ⟨List.forall_mem_cons.mpr ⟨List.mem_cons_of_mem _ (List.mem_append_left _ (List.mem_append_left _ (List.mem_append_left _ (List.mem_append_right _ (List.mem_of_getElem? (i := 14) rfl))))), List.forall_mem_cons.mpr ⟨List.mem_cons_of_mem _ (List.mem_append_left _ (List.mem_append_left _ (List.mem_append_left _ (List.mem_append_right _ (List.mem_of_getElem? (i := 15) rfl))))), (fun _ h => absurd h List.not_mem_nil)⟩⟩, (fun _ h => List.mem_cons_of_mem _ (List.mem_append_left _ (List.mem_append_left _ (List.mem_append_right _ h))))⟩⟩⟩) (by decide +kernel)
set_option maxHeartbeats 4000000 in
set_option maxRecDepth 100000 in
theorem x_X11_key (l : Launch) (D : va_G) (sz : Nat) (sk : Value) (a : Nat → Nat) (t : Nat → ClassId) (i : Nat → Int32) (q : Int64) (c : Nat → Nat → Int32) (d : Nat → Nat → Int64) (w : Int32) (hI : xInv i c) : Met l yX11_key wm_X11_key ({ frames := 2, cells := 0, slots := 0, locals := 43 }) (va_Pc [.ref (a 100), .int w] (yB (a 186) D sz (xwT sk a t i q c d) (xtT t))) (va_Qi (fun (r : Int32) (u : MS) => True ∧ xInv u.1 u.2.2.1 ∧ (∀ k, k ∉ ([102] : List Nat) → u.1 k = i k) ∧ (∀ k, k ∉ ([101] : List Nat) → u.2.2.1 k = c k)) (oC D (va_A (xwT sk a t i q c d) sz) (fun u : MS => xwT sk a t u.1 u.2.1 u.2.2.1 u.2.2.2) (fun _ => [])) (va_A (xwT sk a t i q c d) sz)) 0 0 (va_A (xwT sk a t i q c d) sz) := by
  refine Met.ofW (cc := cX11_key) (maxL := 2) (ret := (some .int)) (by decide +kernel) rfl ?_
  intro p e s m args below meth cd s₁ B hml hv
  obtain ⟨rfl, ⟨hsz, hP, hK, hD0⟩, hN, hZ, hBW⟩ := hv
  have hx := B.exec
  have hb := B.bytes
  have hr := B.returns
  have hts := atoms_spec (ws := wm_X11_key) B.pre
  have hown : s.vm.findClass RX11 = some m.cls := findClass_of_methodNamed B.named
  have hlocks := B.notSynchronized
  subst hsz
  have hD := hD0.self (sz := s.heap.size)
  have hZ := xZ_A hZ hP hBW
  generalize hAe : va_A (xwT sk a t i q c d) s.heap.size = A at hD hZ ⊢
  have hA : ∀ q : Nat, s.heap.size ≤ q → A q := fun q h => by rw [← hAe]; exact Or.inr h
  have hS : va_S A s.heap s.heap [] := va_S.rf
  have hfi : ∀ k, k ∉ ([] : List Nat) → i k = i k := fun _ _ => rfl
  have hfc : ∀ k, k ∉ ([] : List Nat) → c k = c k := fun _ _ => rfl
  have hl := lv_entry ([.ref (a 100), .int w]) (n := 2) (Nat.le_of_ble_eq_true rfl)
  rw [lg_entry_eq]
  generalize (lg_sl ([.ref (a 100), .int w]) ++ List.replicate (2 - (lg_sl ([.ref (a 100), .int w])).length) Slot.unset).toArray = ls at hl ⊢
  have hl : lv_has ls 2 [(0, .ref (a 100)), (1, .int w)] := hl
  refine lv_aload_n hx hb dX11_key_0 rfl (lv_at hl 0 rfl) ?_
  refine xgT_X_world hx hb hts (fun _ h => List.mem_cons_of_mem _ (List.mem_append_left _ (List.mem_append_left _ (List.mem_append_right _ h)))) hown hK hP (hts (.fieldLink RX11 10 "TalePlay" "world" "LTalePlay$World;") (List.mem_cons_of_mem _ (List.mem_append_left _ (List.mem_append_left _ (List.mem_append_left _ (List.mem_append_left _ (List.mem_of_getElem? (i := 0) rfl))))))) dX11_key_1 ?_
  refine lv_iload_n hx hb dX11_key_4 rfl (lv_at hl 1 rfl) ?_
  have rb111_i : 0 ≤ (i 111).toInt ∧ (i 111).toInt ≤ 30 := hI.1 111
  refine ro_calli (va_runV (As := [.int w]) (rest := []) ⟨hx, hb, hml, hown, hts⟩ (x_X10_hasObject l D s.heap.size .null a t i q c d w hI ) (cwV 1 hts gm_X11_key_X10_hasObject_109 rfl rfl rfl (by decide +kernel) ⟨Nat.le_of_ble_eq_true rfl, Nat.le_of_ble_eq_true rfl⟩) (yA_V hN (xZ_k hZ hS hA) (xkT_W hK) (xuT_W (sk := sk) hP) (ci := 10) (q0 := 0) rfl rfl) rfl rfl hl.1 rfl (lv_room (Nat.le_of_ble_eq_true rfl)) dX11_key_5 ⟨Nat.le_of_ble_eq_true rfl, Nat.le_of_ble_eq_true rfl⟩) hS hA hP (fun r1 u1 H locs hw1 hP hS => ?_)
  have hw1 : r1 = if (0 ≤ w.toInt ∧ w.toInt < (i 111).toInt) then 1 else 0 := hw1
  refine lv_if_ne (tgt := 13) hx hb dX11_key_8 (by decide +kernel) (fun c2 => ?_) (fun c2 => ?_)
  · have f2 := fl_t hw1 c2
    refine lv_aload_n hx hb dX11_key_13 rfl (lv_at hl 0 rfl) ?_
    refine xgT_X_world hx hb hts (fun _ h => List.mem_cons_of_mem _ (List.mem_append_left _ (List.mem_append_left _ (List.mem_append_right _ h)))) hown hK hP (hts (.fieldLink RX11 10 "TalePlay" "world" "LTalePlay$World;") (List.mem_cons_of_mem _ (List.mem_append_left _ (List.mem_append_left _ (List.mem_append_left _ (List.mem_append_left _ (List.mem_of_getElem? (i := 0) rfl))))))) dX11_key_14 ?_
    refine lv_iload_n hx hb dX11_key_17 rfl (lv_at hl 1 rfl) ?_
    refine ro_calli (va_runV (As := [.int w]) (rest := []) ⟨hx, hb, hml, hown, hts⟩ (x_X10_isShutter l D H.size .null a t i q c d w hI ) (cwV 1 hts gm_X11_key_X10_isShutter_226 rfl rfl rfl (by decide +kernel) ⟨Nat.le_of_ble_eq_true rfl, Nat.le_of_ble_eq_true rfl⟩) (yA_V hN (xZ_k hZ hS hA) (xkT_W hK) (xuT_W (sk := sk) hP) (ci := 10) (q0 := 0) rfl rfl) rfl rfl hl.1 rfl (lv_room (Nat.le_of_ble_eq_true rfl)) dX11_key_18 ⟨Nat.le_of_ble_eq_true rfl, Nat.le_of_ble_eq_true rfl⟩) hS hA hP (fun r3 u3 H locs hw3 hP hS => ?_)
    have hw3 : (0 ≤ r3.toInt ∧ r3.toInt ≤ 1) := hw3
    refine lv_if_ne (tgt := 30) hx hb dX11_key_21 (by decide +kernel) (fun c4 => ?_) (fun c4 => ?_)
    · have f4 := mt (ti_eq (a := r3.toInt) (b := 0) rfl (by decide +kernel)).mpr c4
      refine lv_aload_n hx hb dX11_key_30 rfl (lv_at hl 0 rfl) ?_
      refine xgT_X_book hx hb hts (fun _ h => List.mem_cons_of_mem _ (List.mem_append_left _ (List.mem_append_left _ (List.mem_append_right _ h)))) hown hK hP (hts (.fieldLink RX11 21 "TalePlay" "book" "LTalePlay$Book;") (List.mem_cons_of_mem _ (List.mem_append_left _ (List.mem_append_left _ (List.mem_append_left _ (List.mem_append_right _ (List.mem_of_getElem? (i := 1) rfl))))))) dX11_key_31 ?_
      refine lv_iload_n hx hb dX11_key_34 rfl (lv_at hl 1 rfl) ?_
      refine ro_calli (va_runV (As := [.int w]) (rest := []) ⟨hx, hb, hml, hown, hts⟩ (x_X1_keyOf l D H.size .null a t i q c d w hI (show 0 ≤ w.toInt ∧ w.toInt ≤ 29 from by omega)) (cwV 1 hts gm_X11_key_X1_keyOf_229 rfl rfl rfl (by decide +kernel) ⟨Nat.le_of_ble_eq_true rfl, Nat.le_of_ble_eq_true rfl⟩) (yA_V hN (xZ_k hZ hS hA) (xkT_B hK) (xuT_B (sk := sk) hP) (ci := 1) (q0 := 6) rfl rfl) rfl rfl hl.1 rfl (lv_room (Nat.le_of_ble_eq_true rfl)) dX11_key_35 ⟨Nat.le_of_ble_eq_true rfl, Nat.le_of_ble_eq_true rfl⟩) hS hA hP (fun r5 u5 H locs hw5 hP hS => ?_)
      have hw5 : (r5.toInt = -9 ∨ (0 ≤ r5.toInt ∧ r5.toInt ≤ 29)) := hw5
      exact rw_iret (i, q, c, d) hx hb hr hlocks hS (hK.sub (tys' := []) [] rfl) hP hD dX11_key_38 ⟨trivial, hI, fr_w hfi (by decide +kernel), fr_w hfc (by decide +kernel)⟩
    · have f4 := (ti_eq (a := r3.toInt) (b := 0) rfl (by decide +kernel)).mp c4
      refine lv_aload_n hx hb dX11_key_24 rfl (lv_at hl 0 rfl) ?_
      refine lv_iconst (v := 3) hx hb dX11_key_25 (by decide +kernel) ?_
      refine al_calli (va_runV (As := [.int 3]) (rest := []) ⟨hx, hb, hml, hown, hts⟩ (x_X11_answerFinding l D H.size sk a t i q c d 3 hI (show 1 ≤ 3 ∧ 3 ≤ 6 from by decide +kernel)) (cwV 1 hts gm_X11_key_X11_answerFinding_128 rfl rfl rfl (by decide +kernel) ⟨Nat.le_of_ble_eq_true rfl, Nat.le_of_ble_eq_true rfl⟩) (yB_V hN (xZ_k hZ hS hA) (xZ_n hZ hD) hK hP hD (ci := 11) (q0 := 0) rfl rfl) rfl rfl hl.1 rfl (lv_room (Nat.le_of_ble_eq_true rfl)) dX11_key_26 ⟨Nat.le_of_ble_eq_true rfl, Nat.le_of_ble_eq_true rfl⟩) hS hA hP hD (fun r6 u6 H locs hw6 hP hD hS => ?_)
      obtain ⟨i6, q6, c6, d6⟩ := u6
      have hw6 : r6 = (-3) ∧ xInv i6 c6 ∧ (∀ k, k ∉ ([102] : List Nat) → i6 k = i k) ∧ (∀ k, k ∉ ([101] : List Nat) → c6 k = c k) := hw6
      obtain ⟨hw6, hI, hei6, hec6⟩ := hw6
      have hfi : ∀ k, k ∉ ([102] : List Nat) → i6 k = i k := fr_z hfi hei6 (by decide +kernel) (by decide +kernel)
      have hfc : ∀ k, k ∉ ([101] : List Nat) → c6 k = c k := fr_z hfc hec6 (by decide +kernel) (by decide +kernel)
      have hw6 : r6 = (-3) := hw6
      subst hw6
      exact rw_iret (i6, q6, c6, d6) hx hb hr hlocks hS (hK.sub (tys' := []) [] rfl) hP hD dX11_key_29 ⟨trivial, hI, fr_w hfi (by decide +kernel), fr_w hfc (by decide +kernel)⟩
  · have f2 := fl_f hw1 c2
    refine lv_iconst (v := (-1)) hx hb dX11_key_11 (by decide +kernel) ?_
    exact rw_iret (i, q, c, d) hx hb hr hlocks hS (hK.sub (tys' := []) [] rfl) hP hD dX11_key_12 ⟨trivial, hI, fr_w hfi (by decide +kernel), fr_w hfc (by decide +kernel)⟩

def wm_X11_line : List Cond := .code yX11_line cX11_line 4 (some .int) :: ((([.fieldLink RX11 10 "TalePlay" "world" "LTalePlay$World;", .methodLink RX11 109 yX10_hasObject, .instanceMethod yX10_hasObject, .selects RX10 yX10_hasObject yX10_hasObject, .initialized RX10, .code yX10_hasObject cX10_hasObject 2 (some .boolean), .fieldLink RX10 37 "TalePlay$World" "objects" "I", .methodLink RX11 91 yX11_isBelow, .static yX11_isBelow, .initialized RX11, .code yX11_isBelow cX11_isBelow 2 (some .boolean), .fieldLink RX11 53 "TalePlay" "lines" "LTalePlay$Lines;", .methodLink RX11 304 yX4_lay, .instanceMethod yX4_lay, .selects RX4 yX4_lay yX4_lay, .initialized RX4] : List Cond) ++ ([.code yX4_lay cX4_lay 5 none, .fieldLink RX4 9 "TalePlay$Lines" "sorts" "[I", .fieldLink RX4 15 "TalePlay$Lines" "lengths" "[I", .fieldLink RX4 18 "TalePlay$Lines" "items" "[J", .methodLink RX11 128 yX11_answerFinding, .instanceMethod yX11_answerFinding, .selects RX11 yX11_answerFinding yX11_answerFinding, .code yX11_answerFinding cX11_answerFinding 2 (some .int), .fieldLink RX11 72 "TalePlay" "latestFinding" "I", .fieldLink RX11 68 "TalePlay" "findingCounts" "[I"] : List Cond)) ++ wsX110 ++ wsX100 ++ wsX40)
set_option maxRecDepth 20000 in
theorem gm_X11_line_X10_hasObject_109 : GoodIn wm_X11_line (wsV RX11 109 RX10 yX10_hasObject wm_X10_hasObject) := goodIn_w (List.forall_mem_append.mpr ⟨List.forall_mem_cons.mpr ⟨List.mem_cons_of_mem _ (List.mem_append_left _ (List.mem_append_left _ (List.mem_append_left _ (List.mem_append_left _ (List.mem_of_getElem? (i := 1) rfl))))), List.forall_mem_cons.mpr ⟨List.mem_cons_of_mem _ (List.mem_append_left _ (List.mem_append_left _ (List.mem_append_left _ (List.mem_append_left _ (List.mem_of_getElem? (i := 2) rfl))))), List.forall_mem_cons.mpr ⟨List.mem_cons_of_mem _ (List.mem_append_left _ (List.mem_append_left _ (List.mem_append_left _ (List.mem_append_left _ (List.mem_of_getElem? (i := 3) rfl))))), List.forall_mem_cons.mpr ⟨List.mem_cons_of_mem _ (List.mem_append_left _ (List.mem_append_left _ (List.mem_append_left _ (List.mem_append_left _ (List.mem_of_getElem? (i := 4) rfl))))), (fun _ h => absurd h List.not_mem_nil)⟩⟩⟩⟩, List.forall_mem_cons.mpr ⟨List.mem_cons_of_mem _ (List.mem_append_left _ (List.mem_append_left _ (List.mem_append_left _ (List.mem_append_left _ (List.mem_of_getElem? (i := 5) rfl))))), List.forall_mem_append.mpr ⟨List.forall_mem_cons.mpr ⟨List.mem_cons_of_mem _ (List.mem_append_left _ (List.mem_append_left _ (List.mem_append_left _ (List.mem_append_left _ (List.mem_of_getElem? (i := 6) rfl))))), (fun _ h => absurd h List.not_mem_nil)⟩, (fun _ h => List.mem_cons_of_mem _ (List.mem_append_left _ (List.mem_append_right _ h)))⟩⟩⟩) (by decide +kernel)
set_option maxRecDepth 20000 in
theorem gm_X11_line_X11_isBelow_91 : GoodIn wm_X11_line (va_wsS RX11 91 yX11_isBelow wm_X11_isBelow) := goodIn_w (List.forall_mem_append.mpr ⟨List.forall_mem_cons.mpr ⟨List.mem_cons_of_mem _ (List.mem_append_left _ (List.mem_append_left _ (List.mem_append_left _ (List.mem_append_left _ (List.mem_of_getElem? (i := 7) rfl))))), List.forall_mem_cons.mpr ⟨List.mem_cons_of_mem _ (List.mem_append_left _ (List.mem_append_left _ (List.mem_append_left _ (List.mem_append_left _ (List.mem_of_getElem? (i := 8) rfl))))), List.forall_mem_cons.mpr ⟨List.mem_cons_of_mem _ (List.mem_append_left _ (List.mem_append_left _ (List.mem_append_left _ (List.mem_append_left _ (List.mem_of_getElem? (i := 9) rfl))))), (fun _ h => absurd h List.not_mem_nil)⟩⟩⟩, List.forall_mem_cons.mpr ⟨List.mem_cons_of_mem _ (List.mem_append_left _ (List.mem_append_left _ (List.mem_append_left _ (List.mem_append_left _ (List.mem_of_getElem? (i := 10) rfl))))), (fun _ h => absurd h List.not_mem_nil)⟩⟩) (by decide +kernel)
set_option maxRecDepth 20000 in
theorem gm_X11_line_X4_lay_304 : GoodIn wm_X11_line (wsV RX11 304 RX4 yX4_lay wm_X4_lay) := goodIn_w (List.forall_mem_append.mpr ⟨List.forall_mem_cons.mpr ⟨List.mem_cons_of_mem _ (List.mem_append_left _ (List.mem_append_left _ (List.mem_append_left _ (List.mem_append_left _ (List.mem_of_getElem? (i := 12) rfl))))), List.forall_mem_cons.mpr ⟨List.mem_cons_of_mem _ (List.mem_append_left _ (List.mem_append_left _ (List.mem_append_left _ (List.mem_append_left _ (List.mem_of_getElem? (i := 13) rfl))))), List.forall_mem_cons.mpr ⟨List.mem_cons_of_mem _ (List.mem_append_left _ (List.mem_append_left _ (List.mem_append_left _ (List.mem_append_left _ (List.mem_of_getElem? (i := 14) rfl))))), List.forall_mem_cons.mpr ⟨List.mem_cons_of_mem _ (List.mem_append_left _ (List.mem_append_left _ (List.mem_append_left _ (List.mem_append_left _ (List.mem_of_getElem? (i := 15) rfl))))), (fun _ h => absurd h List.not_mem_nil)⟩⟩⟩⟩, List.forall_mem_cons.mpr ⟨List.mem_cons_of_mem _ (List.mem_append_left _ (List.mem_append_left _ (List.mem_append_left _ (List.mem_append_right _ (List.mem_of_getElem? (i := 0) rfl))))), List.forall_mem_append.mpr ⟨List.forall_mem_cons.mpr ⟨List.mem_cons_of_mem _ (List.mem_append_left _ (List.mem_append_left _ (List.mem_append_left _ (List.mem_append_right _ (List.mem_of_getElem? (i := 1) rfl))))), List.forall_mem_cons.mpr ⟨List.mem_cons_of_mem _ (List.mem_append_left _ (List.mem_append_left _ (List.mem_append_left _ (List.mem_append_right _ (List.mem_of_getElem? (i := 2) rfl))))), List.forall_mem_cons.mpr ⟨List.mem_cons_of_mem _ (List.mem_append_left _ (List.mem_append_left _ (List.mem_append_left _ (List.mem_append_right _ (List.mem_of_getElem? (i := 3) rfl))))), (fun _ h => absurd h List.not_mem_nil)⟩⟩⟩, (fun _ h => List.mem_cons_of_mem _ (List.mem_append_right _ h))⟩⟩⟩) (by decide +kernel)
set_option maxRecDepth 20000 in
theorem gm_X11_line_X11_answerFinding_128 : GoodIn wm_X11_line (wsV RX11 128 RX11 yX11_answerFinding wm_X11_answerFinding) := goodIn_w (List.forall_mem_append.mpr ⟨List.forall_mem_cons.mpr ⟨List.mem_cons_of_mem _ (List.mem_append_left _ (List.mem_append_left _ (List.mem_append_left _ (List.mem_append_right _ (List.mem_of_getElem? (i := 4) rfl))))), List.forall_mem_cons.mpr ⟨List.mem_cons_of_mem _ (List.mem_append_left _ (List.mem_append_left _ (List.mem_append_left _ (List.mem_append_right _ (List.mem_of_getElem? (i := 5) rfl))))), List.forall_mem_cons.mpr ⟨List.mem_cons_of_mem _ (List.mem_append_left _ (List.mem_append_left _ (List.mem_append_left _ (List.mem_append_right _ (List.mem_of_getElem? (i := 6) rfl))))), List.forall_mem_cons.mpr ⟨List.mem_cons_of_mem _ (List.mem_append_left _ (List.mem_append_left _ (List.mem_append_left _ (List.mem_append_left _ (List.mem_of_getElem? (i := 9) rfl))))), (fun _ h => absurd h List.not_mem_nil)⟩⟩⟩⟩, List.forall_mem_cons.mpr ⟨List.mem_cons_of_mem _ (List.mem_append_left _ (List.mem_append_left _ (List.mem_append_left _ (List.mem_append_right _ (List.mem_of_getElem? (i := 7) rfl))))), List.forall_mem_append.mpr ⟨List.forall_mem_cons.mpr ⟨List.mem_cons_of_mem _ (List.mem_append_left _ (List.mem_append_left _ (List.mem_append_left _ (List.mem_append_right _ (List.mem_of_getElem? (i := 8) rfl))))), List.forall_mem_cons.mpr ⟨List.mem_cons_of_mem _ (List.mem_append_left _ (List.mem_append_left _ (List.mem_append_left _ (List.mem_append_right _ (List.mem_of_getElem? (i := 9) rfl))))), (fun _ h => absurd h List.not_mem_nil)⟩⟩, (fun _ h => List.mem_cons_of_mem _ (List.mem_append_left _ (List.mem_append_left _ (List.mem_append_right _ h))))⟩⟩⟩) (by decide +kernel)
set_option maxHeartbeats 4000000 in
set_option maxRecDepth 100000 in
theorem x_X11_line (l : Launch) (D : va_G) (sz : Nat) (sk : Value) (a : Nat → Nat) (t : Nat → ClassId) (i : Nat → Int32) (q : Int64) (c : Nat → Nat → Int32) (d : Nat → Nat → Int64) (w : Int32) (s1 : Int32) (n1 : Int32) (hI : xInv i c) : Met l yX11_line wm_X11_line ({ frames := 1, cells := 0, slots := 0, locals := 24 }) (va_Pc [.ref (a 100), .int w, .int s1, .int n1] (yB (a 186) D sz (xwT sk a t i q c d) (xtT t))) (va_Qi (fun (r : Int32) (u : MS) => True ∧ xInv u.1 u.2.2.1 ∧ (∀ k, k ∉ ([102] : List Nat) → u.1 k = i k) ∧ (∀ k, k ∉ ([101, 158, 159] : List Nat) → u.2.2.1 k = c k)) (oC D (va_A (xwT sk a t i q c d) sz) (fun u : MS => xwT sk a t u.1 u.2.1 u.2.2.1 u.2.2.2) (fun _ => [])) (va_A (xwT sk a t i q c d) sz)) 0 0 (va_A (xwT sk a t i q c d) sz) := by
  refine Met.ofW (cc := cX11_line) (maxL := 4) (ret := (some .int)) (by decide +kernel) rfl ?_
  intro p e s m args below meth cd s₁ B hml hv
  obtain ⟨rfl, ⟨hsz, hP, hK, hD0⟩, hN, hZ, hBW⟩ := hv
  have hx := B.exec
  have hb := B.bytes
  have hr := B.returns
  have hts := atoms_spec (ws := wm_X11_line) B.pre
  have hown : s.vm.findClass RX11 = some m.cls := findClass_of_methodNamed B.named
  have hlocks := B.notSynchronized
  subst hsz
  have hD := hD0.self (sz := s.heap.size)
  have hZ := xZ_A hZ hP hBW
  generalize hAe : va_A (xwT sk a t i q c d) s.heap.size = A at hD hZ ⊢
  have hA : ∀ q : Nat, s.heap.size ≤ q → A q := fun q h => by rw [← hAe]; exact Or.inr h
  have hS : va_S A s.heap s.heap [] := va_S.rf
  have hfi : ∀ k, k ∉ ([] : List Nat) → i k = i k := fun _ _ => rfl
  have hfc : ∀ k, k ∉ ([] : List Nat) → c k = c k := fun _ _ => rfl
  have hl := lv_entry ([.ref (a 100), .int w, .int s1, .int n1]) (n := 4) (Nat.le_of_ble_eq_true rfl)
  rw [lg_entry_eq]
  generalize (lg_sl ([.ref (a 100), .int w, .int s1, .int n1]) ++ List.replicate (4 - (lg_sl ([.ref (a 100), .int w, .int s1, .int n1])).length) Slot.unset).toArray = ls at hl ⊢
  have hl : lv_has ls 4 [(0, .ref (a 100)), (1, .int w), (2, .int s1), (3, .int n1)] := hl
  refine lv_aload_n hx hb dX11_line_0 rfl (lv_at hl 0 rfl) ?_
  refine xgT_X_world hx hb hts (fun _ h => List.mem_cons_of_mem _ (List.mem_append_left _ (List.mem_append_left _ (List.mem_append_right _ h)))) hown hK hP (hts (.fieldLink RX11 10 "TalePlay" "world" "LTalePlay$World;") (List.mem_cons_of_mem _ (List.mem_append_left _ (List.mem_append_left _ (List.mem_append_left _ (List.mem_append_left _ (List.mem_of_getElem? (i := 0) rfl))))))) dX11_line_1 ?_
  refine lv_iload_n hx hb dX11_line_4 rfl (lv_at hl 1 rfl) ?_
  have rb111_i : 0 ≤ (i 111).toInt ∧ (i 111).toInt ≤ 30 := hI.1 111
  refine ro_calli (va_runV (As := [.int w]) (rest := []) ⟨hx, hb, hml, hown, hts⟩ (x_X10_hasObject l D s.heap.size .null a t i q c d w hI ) (cwV 1 hts gm_X11_line_X10_hasObject_109 rfl rfl rfl (by decide +kernel) ⟨Nat.le_of_ble_eq_true rfl, Nat.le_of_ble_eq_true rfl⟩) (yA_V hN (xZ_k hZ hS hA) (xkT_W hK) (xuT_W (sk := sk) hP) (ci := 10) (q0 := 0) rfl rfl) rfl rfl hl.1 rfl (lv_room (Nat.le_of_ble_eq_true rfl)) dX11_line_5 ⟨Nat.le_of_ble_eq_true rfl, Nat.le_of_ble_eq_true rfl⟩) hS hA hP (fun r1 u1 H locs hw1 hP hS => ?_)
  have hw1 : r1 = if (0 ≤ w.toInt ∧ w.toInt < (i 111).toInt) then 1 else 0 := hw1
  refine lv_if_eq (tgt := 25) hx hb dX11_line_8 (by decide +kernel) (fun c2 => ?_) (fun c2 => ?_)
  · have f2 := fl_f hw1 c2
    refine lv_iconst (v := (-1)) hx hb dX11_line_25 (by decide +kernel) ?_
    exact rw_iret (i, q, c, d) hx hb hr hlocks hS (hK.sub (tys' := []) [] rfl) hP hD dX11_line_26 ⟨trivial, hI, fr_w hfi (by decide +kernel), fr_w hfc (by decide +kernel)⟩
  · have f2 := fl_t hw1 c2
    refine lv_iload_n hx hb dX11_line_11 rfl (lv_at hl 2 rfl) ?_
    refine lv_iconst (v := 4) hx hb dX11_line_12 (by decide +kernel) ?_
    have hPc := hP.sub (ws' := []) [] rfl
    have hKc := hK.sub (tys' := []) [] rfl
    refine ro_calli (va_runS (As := [.int s1, .int 4]) (rest := []) ⟨hx, hb, hml, hown, hts⟩ (c_X11_isBelow l D H.size s1 4 s1.toInt 4 rfl (by decide +kernel)) (va_cwS 2 hts gm_X11_line_X11_isBelow_91 rfl rfl rfl (by decide +kernel) ⟨Nat.le_of_ble_eq_true rfl, Nat.le_of_ble_eq_true rfl⟩) (pA_S hKc hPc) rfl rfl hl.1 rfl (lv_room (Nat.le_of_ble_eq_true rfl)) dX11_line_13 ⟨Nat.le_of_ble_eq_true rfl, Nat.le_of_ble_eq_true rfl⟩) hS hA hP (fun r4 u4 H locs hw4 hP hS => ?_)
    have hw4 : r4 = if (0 ≤ s1.toInt ∧ s1.toInt < 4) then 1 else 0 := hw4
    refine lv_if_eq (tgt := 25) hx hb dX11_line_16 (by decide +kernel) (fun c5 => ?_) (fun c5 => ?_)
    · have f5 := fl_f hw4 c5
      refine lv_iconst (v := (-1)) hx hb dX11_line_25 (by decide +kernel) ?_
      exact rw_iret (i, q, c, d) hx hb hr hlocks hS (hK.sub (tys' := []) [] rfl) hP hD dX11_line_26 ⟨trivial, hI, fr_w hfi (by decide +kernel), fr_w hfc (by decide +kernel)⟩
    · have f5 := fl_t hw4 c5
      refine lv_iload_n hx hb dX11_line_19 rfl (lv_at hl 3 rfl) ?_
      refine lv_bipush (v := 12) hx hb dX11_line_20 (by decide +kernel) ?_
      refine lv_icmp_le (tgt := 27) hx hb dX11_line_22 (by decide +kernel) (fun c6 => ?_) (fun c6 => ?_)
      · have f6 := (ti_le (a := n1.toInt) (b := 12) rfl (by decide +kernel)).mp c6
        refine lv_iload_n hx hb dX11_line_27 rfl (lv_at hl 3 rfl) ?_
        refine lv_if_ge (tgt := 37) hx hb dX11_line_28 (by decide +kernel) (fun c7 => ?_) (fun c7 => ?_)
        · have f7 := (ti_le (a := 0) (b := n1.toInt) (by decide +kernel) rfl).mp c7
          refine lv_aload_n hx hb dX11_line_37 rfl (lv_at hl 0 rfl) ?_
          refine xgT_X_lines hx hb hts (fun _ h => List.mem_cons_of_mem _ (List.mem_append_left _ (List.mem_append_left _ (List.mem_append_right _ h)))) hown hK hP (hts (.fieldLink RX11 53 "TalePlay" "lines" "LTalePlay$Lines;") (List.mem_cons_of_mem _ (List.mem_append_left _ (List.mem_append_left _ (List.mem_append_left _ (List.mem_append_left _ (List.mem_of_getElem? (i := 11) rfl))))))) dX11_line_38 ?_
          refine lv_iload_n hx hb dX11_line_41 rfl (lv_at hl 1 rfl) ?_
          refine lv_iload_n hx hb dX11_line_42 rfl (lv_at hl 2 rfl) ?_
          refine lv_iload_n hx hb dX11_line_43 rfl (lv_at hl 3 rfl) ?_
          refine al_callv (va_runV (As := [.int w, .int s1, .int n1]) (rest := []) ⟨hx, hb, hml, hown, hts⟩ (x_X4_lay l D H.size sk a t i q c d w s1 n1 hI (show 0 ≤ w.toInt ∧ w.toInt ≤ 29 from by omega) (show 0 ≤ s1.toInt ∧ s1.toInt ≤ 3 from by omega) (show 0 ≤ n1.toInt ∧ n1.toInt ≤ 12 from by omega)) (cwV 3 hts gm_X11_line_X4_lay_304 rfl rfl rfl (by decide +kernel) ⟨Nat.le_of_ble_eq_true rfl, Nat.le_of_ble_eq_true rfl⟩) (yB_V hN (xZ_k hZ hS hA) (xZ_n hZ hD) hK hP hD (ci := 4) (q0 := 43) rfl rfl) rfl rfl hl.1 rfl (lv_room (Nat.le_of_ble_eq_true rfl)) dX11_line_44 ⟨Nat.le_of_ble_eq_true rfl, Nat.le_of_ble_eq_true rfl⟩) hS hA hP hD (fun u8 H locs hw8 hP hD hS => ?_)
          obtain ⟨i8, q8, c8, d8⟩ := u8
          have hw8 : True ∧ xInv i8 c8 ∧ (∀ k, k ∉ ([] : List Nat) → i8 k = i k) ∧ (∀ k, k ∉ ([158, 159] : List Nat) → c8 k = c k) := hw8
          obtain ⟨hw8, hI, hei8, hec8⟩ := hw8
          have hfi : ∀ k, k ∉ ([] : List Nat) → i8 k = i k := fr_z hfi hei8 (by decide +kernel) (by decide +kernel)
          have hfc : ∀ k, k ∉ ([158, 159] : List Nat) → c8 k = c k := fr_z hfc hec8 (by decide +kernel) (by decide +kernel)
          refine lv_iload_n hx hb dX11_line_47 rfl (lv_at hl 3 rfl) ?_
          exact rw_iret (i8, q8, c8, d8) hx hb hr hlocks hS (hK.sub (tys' := []) [] rfl) hP hD dX11_line_48 ⟨trivial, hI, fr_w hfi (by decide +kernel), fr_w hfc (by decide +kernel)⟩
        · have f7 := mt (ti_le (a := 0) (b := n1.toInt) (by decide +kernel) rfl).mpr c7
          refine lv_aload_n hx hb dX11_line_31 rfl (lv_at hl 0 rfl) ?_
          refine lv_iconst (v := 5) hx hb dX11_line_32 (by decide +kernel) ?_
          refine al_calli (va_runV (As := [.int 5]) (rest := []) ⟨hx, hb, hml, hown, hts⟩ (x_X11_answerFinding l D H.size sk a t i q c d 5 hI (show 1 ≤ 5 ∧ 5 ≤ 6 from by decide +kernel)) (cwV 1 hts gm_X11_line_X11_answerFinding_128 rfl rfl rfl (by decide +kernel) ⟨Nat.le_of_ble_eq_true rfl, Nat.le_of_ble_eq_true rfl⟩) (yB_V hN (xZ_k hZ hS hA) (xZ_n hZ hD) hK hP hD (ci := 11) (q0 := 0) rfl rfl) rfl rfl hl.1 rfl (lv_room (Nat.le_of_ble_eq_true rfl)) dX11_line_33 ⟨Nat.le_of_ble_eq_true rfl, Nat.le_of_ble_eq_true rfl⟩) hS hA hP hD (fun r9 u9 H locs hw9 hP hD hS => ?_)
          obtain ⟨i9, q9, c9, d9⟩ := u9
          have hw9 : r9 = (-3) ∧ xInv i9 c9 ∧ (∀ k, k ∉ ([102] : List Nat) → i9 k = i k) ∧ (∀ k, k ∉ ([101] : List Nat) → c9 k = c k) := hw9
          obtain ⟨hw9, hI, hei9, hec9⟩ := hw9
          have hfi : ∀ k, k ∉ ([102] : List Nat) → i9 k = i k := fr_z hfi hei9 (by decide +kernel) (by decide +kernel)
          have hfc : ∀ k, k ∉ ([101] : List Nat) → c9 k = c k := fr_z hfc hec9 (by decide +kernel) (by decide +kernel)
          have hw9 : r9 = (-3) := hw9
          subst hw9
          exact rw_iret (i9, q9, c9, d9) hx hb hr hlocks hS (hK.sub (tys' := []) [] rfl) hP hD dX11_line_36 ⟨trivial, hI, fr_w hfi (by decide +kernel), fr_w hfc (by decide +kernel)⟩
      · have f6 := mt (ti_le (a := n1.toInt) (b := 12) rfl (by decide +kernel)).mpr c6
        refine lv_iconst (v := (-1)) hx hb dX11_line_25 (by decide +kernel) ?_
        exact rw_iret (i, q, c, d) hx hb hr hlocks hS (hK.sub (tys' := []) [] rfl) hP hD dX11_line_26 ⟨trivial, hI, fr_w hfi (by decide +kernel), fr_w hfc (by decide +kernel)⟩

def wm_X11_put : List Cond := .code yX11_put cX11_put 7 (some .int) :: ((([.methodLink RX11 308 yX11_refuseItem, .instanceMethod yX11_refuseItem, .selects RX11 yX11_refuseItem yX11_refuseItem, .initialized RX11, .code yX11_refuseItem cX11_refuseItem 4 (some .int), .fieldLink RX11 10 "TalePlay" "world" "LTalePlay$World;", .methodLink RX11 109 yX10_hasObject, .instanceMethod yX10_hasObject, .selects RX10 yX10_hasObject yX10_hasObject, .initialized RX10, .code yX10_hasObject cX10_hasObject 2 (some .boolean), .fieldLink RX10 37 "TalePlay$World" "objects" "I", .methodLink RX11 91 yX11_isBelow, .static yX11_isBelow, .code yX11_isBelow cX11_isBelow 2 (some .boolean), .fieldLink RX11 53 "TalePlay" "lines" "LTalePlay$Lines;"] : List Cond) ++ (([.fieldLink RX11 322 "TalePlay$Lines" "sorts" "[I", .methodLink RX11 319 yX4_isOther, .instanceMethod yX4_isOther, .selects RX4 yX4_isOther yX4_isOther, .initialized RX4, .code yX4_isOther cX4_isOther 3 (some .boolean), .fieldLink RX4 9 "TalePlay$Lines" "sorts" "[I", .fieldLink RX11 373 "TalePlay$Lines" "lengths" "[I", .methodLink RX11 128 yX11_answerFinding, .instanceMethod yX11_answerFinding, .selects RX11 yX11_answerFinding yX11_answerFinding, .code yX11_answerFinding cX11_answerFinding 2 (some .int), .fieldLink RX11 72 "TalePlay" "latestFinding" "I", .fieldLink RX11 68 "TalePlay" "findingCounts" "[I", .fieldLink RX11 311 "TalePlay$Lines" "items" "[J", .methodLink RX11 315 yX4_cutTo] : List Cond) ++ ([.instanceMethod yX4_cutTo, .selects RX4 yX4_cutTo yX4_cutTo, .code yX4_cutTo cX4_cutTo 4 (some .long), .methodLink RX4 28 yX4_floatBits, .static yX4_floatBits, .code yX4_floatBits cX4_floatBits 1 (some .int), .constant RX4 32 (2147483647), .constant RX4 33 (2139095040), .constant RX4 34 (2143289344)] : List Cond))) ++ wsX110 ++ wsX100 ++ wsX40)
set_option maxRecDepth 20000 in
theorem gm_X11_put_X11_refuseItem_308 : GoodIn wm_X11_put (wsV RX11 308 RX11 yX11_refuseItem wm_X11_refuseItem) := goodIn_w (List.forall_mem_append.mpr ⟨List.forall_mem_cons.mpr ⟨List.mem_cons_of_mem _ (List.mem_append_left _ (List.mem_append_left _ (List.mem_append_left _ (List.mem_append_left _ (List.mem_of_getElem? (i := 0) rfl))))), List.forall_mem_cons.mpr ⟨List.mem_cons_of_mem _ (List.mem_append_left _ (List.mem_append_left _ (List.mem_append_left _ (List.mem_append_left _ (List.mem_of_getElem? (i := 1) rfl))))), List.forall_mem_cons.mpr ⟨List.mem_cons_of_mem _ (List.mem_append_left _ (List.mem_append_left _ (List.mem_append_left _ (List.mem_append_left _ (List.mem_of_getElem? (i := 2) rfl))))), List.forall_mem_cons.mpr ⟨List.mem_cons_of_mem _ (List.mem_append_left _ (List.mem_append_left _ (List.mem_append_left _ (List.mem_append_left _ (List.mem_of_getElem? (i := 3) rfl))))), (fun _ h => absurd h List.not_mem_nil)⟩⟩⟩⟩, List.forall_mem_cons.mpr ⟨List.mem_cons_of_mem _ (List.mem_append_left _ (List.mem_append_left _ (List.mem_append_left _ (List.mem_append_left _ (List.mem_of_getElem? (i := 4) rfl))))), List.forall_mem_append.mpr ⟨List.forall_mem_append.mpr ⟨List.forall_mem_append.mpr ⟨List.forall_mem_append.mpr ⟨List.forall_mem_cons.mpr ⟨List.mem_cons_of_mem _ (List.mem_append_left _ (List.mem_append_left _ (List.mem_append_left _ (List.mem_append_left _ (List.mem_of_getElem? (i := 5) rfl))))), List.forall_mem_cons.mpr ⟨List.mem_cons_of_mem _ (List.mem_append_left _ (List.mem_append_left _ (List.mem_append_left _ (List.mem_append_left _ (List.mem_of_getElem? (i := 6) rfl))))), List.forall_mem_cons.mpr ⟨List.mem_cons_of_mem _ (List.mem_append_left _ (List.mem_append_left _ (List.mem_append_left _ (List.mem_append_left _ (List.mem_of_getElem? (i := 7) rfl))))), List.forall_mem_cons.mpr ⟨List.mem_cons_of_mem _ (List.mem_append_left _ (List.mem_append_left _ (List.mem_append_left _ (List.mem_append_left _ (List.mem_of_getElem? (i := 8) rfl))))), List.forall_mem_cons.mpr ⟨List.mem_cons_of_mem _ (List.mem_append_left _ (List.mem_append_left _ (List.mem_append_left _ (List.mem_append_left _ (List.mem_of_getElem? (i := 9) rfl))))), List.forall_mem_cons.mpr ⟨List.mem_cons_of_mem _ (List.mem_append_left _ (List.mem_append_left _ (List.mem_append_left _ (List.mem_append_left _ (List.mem_of_getElem? (i := 10) rfl))))), List.forall_mem_cons.mpr ⟨List.mem_cons_of_mem _ (List.mem_append_left _ (List.mem_append_left _ (List.mem_append_left _ (List.mem_append_left _ (List.mem_of_getElem? (i := 11) rfl))))), List.forall_mem_cons.mpr ⟨List.mem_cons_of_mem _ (List.mem_append_left _ (List.mem_append_left _ (List.mem_append_left _ (List.mem_append_left _ (List.mem_of_getElem? (i := 12) rfl))))), List.forall_mem_cons.mpr ⟨List.mem_cons_of_mem _ (List.mem_append_left _ (List.mem_append_left _ (List.mem_append_left _ (List.mem_append_left _ (List.mem_of_getElem? (i := 13) rfl))))), List.forall_mem_cons.mpr ⟨List.mem_cons_of_mem _ (List.mem_append_left _ (List.mem_append_left _ (List.mem_append_left _ (List.mem_append_left _ (List.mem_of_getElem? (i := 3) rfl))))), List.forall_mem_cons.mpr ⟨List.mem_cons_of_mem _ (List.mem_append_left _ (List.mem_append_left _ (List.mem_append_left _ (List.mem_append_left _ (List.mem_of_getElem? (i := 14) rfl))))), List.forall_mem_cons.mpr ⟨List.mem_cons_of_mem _ (List.mem_append_left _ (List.mem_append_left _ (List.mem_append_left _ (List.mem_append_left _ (List.mem_of_getElem? (i := 15) rfl))))), List.forall_mem_cons.mpr ⟨List.mem_cons_of_mem _ (List.mem_append_left _ (List.mem_append_left _ (List.mem_append_left _ (List.mem_append_right _ (List.mem_append_left _ (List.mem_of_getElem? (i := 0) rfl)))))), List.forall_mem_cons.mpr ⟨List.mem_cons_of_mem _ (List.mem_append_left _ (List.mem_append_left _ (List.mem_append_left _ (List.mem_append_right _ (List.mem_append_left _ (List.mem_of_getElem? (i := 1) rfl)))))), List.forall_mem_cons.mpr ⟨List.mem_cons_of_mem _ (List.mem_append_left _ (List.mem_append_left _ (List.mem_append_left _ (List.mem_append_right _ (List.mem_append_left _ (List.mem_of_getElem? (i := 2) rfl)))))), List.forall_mem_cons.mpr ⟨List.mem_cons_of_mem _ (List.mem_append_left _ (List.mem_append_left _ (List.mem_append_left _ (List.mem_append_right _ (List.mem_append_left _ (List.mem_of_getElem? (i := 3) rfl)))))), (fun _ h => absurd h List.not_mem_nil)⟩⟩⟩⟩⟩⟩⟩⟩⟩⟩⟩⟩⟩⟩⟩⟩, List.forall_mem_cons.mpr ⟨List.mem_cons_of_mem _ (List.mem_append_left _ (List.mem_append_left _ (List.mem_append_left _ (List.mem_append_right _ (List.mem_append_left _ (List.mem_of_getElem? (i := 4) rfl)))))), List.forall_mem_cons.mpr ⟨List.mem_cons_of_mem _ (List.mem_append_left _ (List.mem_append_left _ (List.mem_append_left _ (List.mem_append_right _ (List.mem_append_left _ (List.mem_of_getElem? (i := 5) rfl)))))), List.forall_mem_cons.mpr ⟨List.mem_cons_of_mem _ (List.mem_append_left _ (List.mem_append_left _ (List.mem_append_left _ (List.mem_append_right _ (List.mem_append_left _ (List.mem_of_getElem? (i := 6) rfl)))))), List.forall_mem_cons.mpr ⟨List.mem_cons_of_mem _ (List.mem_append_left _ (List.mem_append_left _ (List.mem_append_left _ (List.mem_append_right _ (List.mem_append_left _ (List.mem_of_getElem? (i := 7) rfl)))))), List.forall_mem_cons.mpr ⟨List.mem_cons_of_mem _ (List.mem_append_left _ (List.mem_append_left _ (List.mem_append_left _ (List.mem_append_right _ (List.mem_append_left _ (List.mem_of_getElem? (i := 8) rfl)))))), List.forall_mem_cons.mpr ⟨List.mem_cons_of_mem _ (List.mem_append_left _ (List.mem_append_left _ (List.mem_append_left _ (List.mem_append_right _ (List.mem_append_left _ (List.mem_of_getElem? (i := 9) rfl)))))), List.forall_mem_cons.mpr ⟨List.mem_cons_of_mem _ (List.mem_append_left _ (List.mem_append_left _ (List.mem_append_left _ (List.mem_append_right _ (List.mem_append_left _ (List.mem_of_getElem? (i := 10) rfl)))))), List.forall_mem_cons.mpr ⟨List.mem_cons_of_mem _ (List.mem_append_left _ (List.mem_append_left _ (List.mem_append_left _ (List.mem_append_right _ (List.mem_append_left _ (List.mem_of_getElem? (i := 11) rfl)))))), List.forall_mem_cons.mpr ⟨List.mem_cons_of_mem _ (List.mem_append_left _ (List.mem_append_left _ (List.mem_append_left _ (List.mem_append_right _ (List.mem_append_left _ (List.mem_of_getElem? (i := 12) rfl)))))), List.forall_mem_cons.mpr ⟨List.mem_cons_of_mem _ (List.mem_append_left _ (List.mem_append_left _ (List.mem_append_left _ (List.mem_append_right _ (List.mem_append_left _ (List.mem_of_getElem? (i := 13) rfl)))))), (fun _ h => absurd h List.not_mem_nil)⟩⟩⟩⟩⟩⟩⟩⟩⟩⟩⟩, (fun _ h => List.mem_cons_of_mem _ (List.mem_append_left _ (List.mem_append_left _ (List.mem_append_right _ h))))⟩, (fun _ h => List.mem_cons_of_mem _ (List.mem_append_left _ (List.mem_append_right _ h)))⟩, (fun _ h => List.mem_cons_of_mem _ (List.mem_append_right _ h))⟩⟩⟩) (by decide +kernel)
set_option maxRecDepth 20000 in
theorem gm_X11_put_X4_cutTo_315 : GoodIn wm_X11_put (wsV RX11 315 RX4 yX4_cutTo wm_X4_cutTo) := goodIn_w (List.forall_mem_append.mpr ⟨List.forall_mem_cons.mpr ⟨List.mem_cons_of_mem _ (List.mem_append_left _ (List.mem_append_left _ (List.mem_append_left _ (List.mem_append_right _ (List.mem_append_left _ (List.mem_of_getElem? (i := 15) rfl)))))), List.forall_mem_cons.mpr ⟨List.mem_cons_of_mem _ (List.mem_append_left _ (List.mem_append_left _ (List.mem_append_left _ (List.mem_append_right _ (List.mem_append_right _ (List.mem_of_getElem? (i := 0) rfl)))))), List.forall_mem_cons.mpr ⟨List.mem_cons_of_mem _ (List.mem_append_left _ (List.mem_append_left _ (List.mem_append_left _ (List.mem_append_right _ (List.mem_append_right _ (List.mem_of_getElem? (i := 1) rfl)))))), List.forall_mem_cons.mpr ⟨List.mem_cons_of_mem _ (List.mem_append_left _ (List.mem_append_left _ (List.mem_append_left _ (List.mem_append_right _ (List.mem_append_left _ (List.mem_of_getElem? (i := 4) rfl)))))), (fun _ h => absurd h List.not_mem_nil)⟩⟩⟩⟩, List.forall_mem_cons.mpr ⟨List.mem_cons_of_mem _ (List.mem_append_left _ (List.mem_append_left _ (List.mem_append_left _ (List.mem_append_right _ (List.mem_append_right _ (List.mem_of_getElem? (i := 2) rfl)))))), List.forall_mem_cons.mpr ⟨List.mem_cons_of_mem _ (List.mem_append_left _ (List.mem_append_left _ (List.mem_append_left _ (List.mem_append_right _ (List.mem_append_right _ (List.mem_of_getElem? (i := 3) rfl)))))), List.forall_mem_cons.mpr ⟨List.mem_cons_of_mem _ (List.mem_append_left _ (List.mem_append_left _ (List.mem_append_left _ (List.mem_append_right _ (List.mem_append_right _ (List.mem_of_getElem? (i := 4) rfl)))))), List.forall_mem_cons.mpr ⟨List.mem_cons_of_mem _ (List.mem_append_left _ (List.mem_append_left _ (List.mem_append_left _ (List.mem_append_right _ (List.mem_append_left _ (List.mem_of_getElem? (i := 4) rfl)))))), List.forall_mem_cons.mpr ⟨List.mem_cons_of_mem _ (List.mem_append_left _ (List.mem_append_left _ (List.mem_append_left _ (List.mem_append_right _ (List.mem_append_right _ (List.mem_of_getElem? (i := 5) rfl)))))), List.forall_mem_cons.mpr ⟨List.mem_cons_of_mem _ (List.mem_append_left _ (List.mem_append_left _ (List.mem_append_left _ (List.mem_append_right _ (List.mem_append_right _ (List.mem_of_getElem? (i := 6) rfl)))))), List.forall_mem_cons.mpr ⟨List.mem_cons_of_mem _ (List.mem_append_left _ (List.mem_append_left _ (List.mem_append_left _ (List.mem_append_right _ (List.mem_append_right _ (List.mem_of_getElem? (i := 7) rfl)))))), List.forall_mem_cons.mpr ⟨List.mem_cons_of_mem _ (List.mem_append_left _ (List.mem_append_left _ (List.mem_append_left _ (List.mem_append_right _ (List.mem_append_right _ (List.mem_of_getElem? (i := 8) rfl)))))), (fun _ h => absurd h List.not_mem_nil)⟩⟩⟩⟩⟩⟩⟩⟩⟩) (by decide +kernel)
set_option maxHeartbeats 4000000 in
set_option maxRecDepth 100000 in
theorem x_X11_put (l : Launch) (D : va_G) (sz : Nat) (sk : Value) (a : Nat → Nat) (t : Nat → ClassId) (i : Nat → Int32) (q : Int64) (c : Nat → Nat → Int32) (d : Nat → Nat → Int64) (w : Int32) (s1 : Int32) (n1 : Int32) (v1 : Int64) (hI : xInv i c) : Met l yX11_put wm_X11_put ({ frames := 2, cells := 0, slots := 0, locals := 45 }) (va_Pc [.ref (a 100), .int w, .int s1, .int n1, .long v1] (yB (a 186) D sz (xwT sk a t i q c d) (xtT t))) (va_Qi (fun (r : Int32) (u : MS) => True ∧ xInv u.1 u.2.2.1 ∧ (∀ k, k ∉ ([102] : List Nat) → u.1 k = i k) ∧ (∀ k, k ∉ ([101] : List Nat) → u.2.2.1 k = c k)) (oC D (va_A (xwT sk a t i q c d) sz) (fun u : MS => xwT sk a t u.1 u.2.1 u.2.2.1 u.2.2.2) (fun _ => [])) (va_A (xwT sk a t i q c d) sz)) 0 0 (va_A (xwT sk a t i q c d) sz) := by
  refine Met.ofW (cc := cX11_put) (maxL := 7) (ret := (some .int)) (by decide +kernel) rfl ?_
  intro p e s m args below meth cd s₁ B hml hv
  obtain ⟨rfl, ⟨hsz, hP, hK, hD0⟩, hN, hZ, hBW⟩ := hv
  have hx := B.exec
  have hb := B.bytes
  have hr := B.returns
  have hts := atoms_spec (ws := wm_X11_put) B.pre
  have hown : s.vm.findClass RX11 = some m.cls := findClass_of_methodNamed B.named
  have hlocks := B.notSynchronized
  subst hsz
  have hD := hD0.self (sz := s.heap.size)
  have hZ := xZ_A hZ hP hBW
  generalize hAe : va_A (xwT sk a t i q c d) s.heap.size = A at hD hZ ⊢
  have hA : ∀ q : Nat, s.heap.size ≤ q → A q := fun q h => by rw [← hAe]; exact Or.inr h
  have hS : va_S A s.heap s.heap [] := va_S.rf
  have hfi : ∀ k, k ∉ ([] : List Nat) → i k = i k := fun _ _ => rfl
  have hfc : ∀ k, k ∉ ([] : List Nat) → c k = c k := fun _ _ => rfl
  have hl := lv_entry ([.ref (a 100), .int w, .int s1, .int n1, .long v1]) (n := 7) (Nat.le_of_ble_eq_true rfl)
  rw [lg_entry_eq]
  generalize (lg_sl ([.ref (a 100), .int w, .int s1, .int n1, .long v1]) ++ List.replicate (7 - (lg_sl ([.ref (a 100), .int w, .int s1, .int n1, .long v1])).length) Slot.unset).toArray = ls at hl ⊢
  have hl : lv_has ls 7 [(0, .ref (a 100)), (1, .int w), (2, .int s1), (3, .int n1), (4, .long v1)] := hl
  refine lv_aload_n hx hb dX11_put_0 rfl (lv_at hl 0 rfl) ?_
  refine lv_iload_n hx hb dX11_put_1 rfl (lv_at hl 1 rfl) ?_
  refine lv_iload_n hx hb dX11_put_2 rfl (lv_at hl 2 rfl) ?_
  refine lv_iload_n hx hb dX11_put_3 rfl (lv_at hl 3 rfl) ?_
  have rb111_i : 0 ≤ (i 111).toInt ∧ (i 111).toInt ≤ 30 := hI.1 111
  refine al_calli (va_runV (As := [.int w, .int s1, .int n1]) (rest := []) ⟨hx, hb, hml, hown, hts⟩ (x_X11_refuseItem l D s.heap.size sk a t i q c d w s1 n1 hI ) (cwV 3 hts gm_X11_put_X11_refuseItem_308 rfl rfl rfl (by decide +kernel) ⟨Nat.le_of_ble_eq_true rfl, Nat.le_of_ble_eq_true rfl⟩) (yB_V hN (xZ_k hZ hS hA) (xZ_n hZ hD) hK hP hD (ci := 11) (q0 := 0) rfl rfl) rfl rfl hl.1 rfl (lv_room (Nat.le_of_ble_eq_true rfl)) dX11_put_4 ⟨Nat.le_of_ble_eq_true rfl, Nat.le_of_ble_eq_true rfl⟩) hS hA hP hD (fun r1 u1 H locs hw1 hP hD hS => ?_)
  obtain ⟨i1, q1, c1, d1⟩ := u1
  have hw1 : ((r1.toInt = 0 ∧ 0 ≤ w.toInt ∧ w.toInt < (i 111).toInt ∧ 0 ≤ n1.toInt ∧ n1.toInt ≤ 11) ∨ r1.toInt = -1 ∨ r1.toInt = -3) ∧ xInv i1 c1 ∧ (∀ k, k ∉ ([102] : List Nat) → i1 k = i k) ∧ (∀ k, k ∉ ([101] : List Nat) → c1 k = c k) := hw1
  obtain ⟨hw1, hI, hei1, hec1⟩ := hw1
  have hfi : ∀ k, k ∉ ([102] : List Nat) → i1 k = i k := fr_z hfi hei1 (by decide +kernel) (by decide +kernel)
  have hfc : ∀ k, k ∉ ([101] : List Nat) → c1 k = c k := fr_z hfc hec1 (by decide +kernel) (by decide +kernel)
  refine lv_istore (lv' := [(6, .int r1), (0, .ref (a 100)), (1, .int w), (2, .int s1), (3, .int n1), (4, .long v1)]) hx hb dX11_put_7 hl (by decide +kernel) rfl (fun ls hl => ?_)
  refine lv_iload hx hb dX11_put_9 (lv_at hl 0 rfl) ?_
  refine lv_if_eq (tgt := 17) hx hb dX11_put_11 (by decide +kernel) (fun c2 => ?_) (fun c2 => ?_)
  · have f2 := (ti_eq (a := r1.toInt) (b := 0) rfl (by decide +kernel)).mp c2
    refine lv_aload_n hx hb dX11_put_17 rfl (lv_at hl 1 rfl) ?_
    refine xgT_X_lines hx hb hts (fun _ h => List.mem_cons_of_mem _ (List.mem_append_left _ (List.mem_append_left _ (List.mem_append_right _ h)))) hown hK hP (hts (.fieldLink RX11 53 "TalePlay" "lines" "LTalePlay$Lines;") (List.mem_cons_of_mem _ (List.mem_append_left _ (List.mem_append_left _ (List.mem_append_left _ (List.mem_append_left _ (List.mem_of_getElem? (i := 15) rfl))))))) dX11_put_18 ?_
    refine xgT_L_items hx hb hts (fun _ h => List.mem_cons_of_mem _ (List.mem_append_right _ h)) hown hK hP (hts (.fieldLink RX11 311 "TalePlay$Lines" "items" "[J") (List.mem_cons_of_mem _ (List.mem_append_left _ (List.mem_append_left _ (List.mem_append_left _ (List.mem_append_right _ (List.mem_append_left _ (List.mem_of_getElem? (i := 14) rfl)))))))) dX11_put_21 ?_
    refine lv_iload_n hx hb dX11_put_24 rfl (lv_at hl 2 rfl) ?_
    refine lv_bipush (v := 12) hx hb dX11_put_25 (by decide +kernel) ?_
    refine lv_imul hx hb dX11_put_27 ?_
    refine lv_topi (fun x3 ex3 => ?_)
    have tx3 := ti_mul (a := w.toInt) (b := 12) ex3 rfl (by decide +kernel) (by omega) (by omega)
    refine lv_iload_n hx hb dX11_put_28 rfl (lv_at hl 4 rfl) ?_
    refine lv_iadd hx hb dX11_put_29 ?_
    refine lv_topi (fun x4 ex4 => ?_)
    have tx4 := ti_add (a := (w.toInt * 12)) (b := n1.toInt) ex4 tx3 rfl (by omega) (by omega)
    refine lv_aload_n hx hb dX11_put_30 rfl (lv_at hl 1 rfl) ?_
    refine xgT_X_lines hx hb hts (fun _ h => List.mem_cons_of_mem _ (List.mem_append_left _ (List.mem_append_left _ (List.mem_append_right _ h)))) hown hK hP (hts (.fieldLink RX11 53 "TalePlay" "lines" "LTalePlay$Lines;") (List.mem_cons_of_mem _ (List.mem_append_left _ (List.mem_append_left _ (List.mem_append_left _ (List.mem_append_left _ (List.mem_of_getElem? (i := 15) rfl))))))) dX11_put_31 ?_
    refine lv_iload_n hx hb dX11_put_34 rfl (lv_at hl 3 rfl) ?_
    refine lv_lload hx hb dX11_put_35 (lv_at hl 5 rfl) ?_
    refine ro_calll (va_runV (As := [.int s1, .long v1]) (rest := [.int x4, .ref (a 160)]) ⟨hx, hb, hml, hown, hts⟩ (x_X4_cutTo l D H.size sk a t i1 q1 c1 d1 s1 v1 hI ) (cwV 2 hts gm_X11_put_X4_cutTo_315 rfl rfl rfl (by decide +kernel) ⟨Nat.le_of_ble_eq_true rfl, Nat.le_of_ble_eq_true rfl⟩) (yA_V hN (xZ_k hZ hS hA) hK hP (ci := 4) (q0 := 43) rfl rfl) rfl rfl hl.1 rfl (lv_room (Nat.le_of_ble_eq_true rfl)) dX11_put_37 ⟨Nat.le_of_ble_eq_true rfl, Nat.le_of_ble_eq_true rfl⟩) hS hA hP (fun r5 u5 H locs hw5 hP hS => ?_)
    refine xsT_160 hx hb hK hP hD hS (vp_in_iff.mpr (by have h9 : x4.toInt = ((w.toInt * 12) + n1.toInt) := tx4; omega)) dX11_put_40 (fun H locs hP hD hS => ?_)
    refine lv_iconst (v := 1) hx hb dX11_put_41 (by decide +kernel) ?_
    exact rw_iret (i1, q1, c1, (updD d1 160 (x4 : Int32).toNatClampNeg r5)) hx hb hr hlocks hS (hK.sub (tys' := []) [] rfl) hP hD dX11_put_42 ⟨trivial, hI, fr_w hfi (by decide +kernel), fr_w hfc (by decide +kernel)⟩
  · have f2 := mt (ti_eq (a := r1.toInt) (b := 0) rfl (by decide +kernel)).mpr c2
    refine lv_iload hx hb dX11_put_14 (lv_at hl 0 rfl) ?_
    exact rw_iret (i1, q1, c1, d1) hx hb hr hlocks hS (hK.sub (tys' := []) [] rfl) hP hD dX11_put_16 ⟨trivial, hI, fr_w hfi (by decide +kernel), fr_w hfc (by decide +kernel)⟩

def wm_X11_item : List Cond := .code yX11_item cX11_item 5 (some .int) :: ((([.methodLink RX11 308 yX11_refuseItem, .instanceMethod yX11_refuseItem, .selects RX11 yX11_refuseItem yX11_refuseItem, .initialized RX11, .code yX11_refuseItem cX11_refuseItem 4 (some .int), .fieldLink RX11 10 "TalePlay" "world" "LTalePlay$World;", .methodLink RX11 109 yX10_hasObject, .instanceMethod yX10_hasObject, .selects RX10 yX10_hasObject yX10_hasObject, .initialized RX10, .code yX10_hasObject cX10_hasObject 2 (some .boolean), .fieldLink RX10 37 "TalePlay$World" "objects" "I", .methodLink RX11 91 yX11_isBelow, .static yX11_isBelow, .code yX11_isBelow cX11_isBelow 2 (some .boolean), .fieldLink RX11 53 "TalePlay" "lines" "LTalePlay$Lines;"] : List Cond) ++ ([.fieldLink RX11 322 "TalePlay$Lines" "sorts" "[I", .methodLink RX11 319 yX4_isOther, .instanceMethod yX4_isOther, .selects RX4 yX4_isOther yX4_isOther, .initialized RX4, .code yX4_isOther cX4_isOther 3 (some .boolean), .fieldLink RX4 9 "TalePlay$Lines" "sorts" "[I", .fieldLink RX11 373 "TalePlay$Lines" "lengths" "[I", .methodLink RX11 128 yX11_answerFinding, .instanceMethod yX11_answerFinding, .selects RX11 yX11_answerFinding yX11_answerFinding, .code yX11_answerFinding cX11_answerFinding 2 (some .int), .fieldLink RX11 72 "TalePlay" "latestFinding" "I", .fieldLink RX11 68 "TalePlay" "findingCounts" "[I", .fieldLink RX11 311 "TalePlay$Lines" "items" "[J", .fieldLink RX11 76 "TalePlay" "told" "J"] : List Cond)) ++ wsX110 ++ wsX100 ++ wsX40)
set_option maxRecDepth 20000 in
theorem gm_X11_item_X11_refuseItem_308 : GoodIn wm_X11_item (wsV RX11 308 RX11 yX11_refuseItem wm_X11_refuseItem) := goodIn_w (List.forall_mem_append.mpr ⟨List.forall_mem_cons.mpr ⟨List.mem_cons_of_mem _ (List.mem_append_left _ (List.mem_append_left _ (List.mem_append_left _ (List.mem_append_left _ (List.mem_of_getElem? (i := 0) rfl))))), List.forall_mem_cons.mpr ⟨List.mem_cons_of_mem _ (List.mem_append_left _ (List.mem_append_left _ (List.mem_append_left _ (List.mem_append_left _ (List.mem_of_getElem? (i := 1) rfl))))), List.forall_mem_cons.mpr ⟨List.mem_cons_of_mem _ (List.mem_append_left _ (List.mem_append_left _ (List.mem_append_left _ (List.mem_append_left _ (List.mem_of_getElem? (i := 2) rfl))))), List.forall_mem_cons.mpr ⟨List.mem_cons_of_mem _ (List.mem_append_left _ (List.mem_append_left _ (List.mem_append_left _ (List.mem_append_left _ (List.mem_of_getElem? (i := 3) rfl))))), (fun _ h => absurd h List.not_mem_nil)⟩⟩⟩⟩, List.forall_mem_cons.mpr ⟨List.mem_cons_of_mem _ (List.mem_append_left _ (List.mem_append_left _ (List.mem_append_left _ (List.mem_append_left _ (List.mem_of_getElem? (i := 4) rfl))))), List.forall_mem_append.mpr ⟨List.forall_mem_append.mpr ⟨List.forall_mem_append.mpr ⟨List.forall_mem_append.mpr ⟨List.forall_mem_cons.mpr ⟨List.mem_cons_of_mem _ (List.mem_append_left _ (List.mem_append_left _ (List.mem_append_left _ (List.mem_append_left _ (List.mem_of_getElem? (i := 5) rfl))))), List.forall_mem_cons.mpr ⟨List.mem_cons_of_mem _ (List.mem_append_left _ (List.mem_append_left _ (List.mem_append_left _ (List.mem_append_left _ (List.mem_of_getElem? (i := 6) rfl))))), List.forall_mem_cons.mpr ⟨List.mem_cons_of_mem _ (List.mem_append_left _ (List.mem_append_left _ (List.mem_append_left _ (List.mem_append_left _ (List.mem_of_getElem? (i := 7) rfl))))), List.forall_mem_cons.mpr ⟨List.mem_cons_of_mem _ (List.mem_append_left _ (List.mem_append_left _ (List.mem_append_left _ (List.mem_append_left _ (List.mem_of_getElem? (i := 8) rfl))))), List.forall_mem_cons.mpr ⟨List.mem_cons_of_mem _ (List.mem_append_left _ (List.mem_append_left _ (List.mem_append_left _ (List.mem_append_left _ (List.mem_of_getElem? (i := 9) rfl))))), List.forall_mem_cons.mpr ⟨List.mem_cons_of_mem _ (List.mem_append_left _ (List.mem_append_left _ (List.mem_append_left _ (List.mem_append_left _ (List.mem_of_getElem? (i := 10) rfl))))), List.forall_mem_cons.mpr ⟨List.mem_cons_of_mem _ (List.mem_append_left _ (List.mem_append_left _ (List.mem_append_left _ (List.mem_append_left _ (List.mem_of_getElem? (i := 11) rfl))))), List.forall_mem_cons.mpr ⟨List.mem_cons_of_mem _ (List.mem_append_left _ (List.mem_append_left _ (List.mem_append_left _ (List.mem_append_left _ (List.mem_of_getElem? (i := 12) rfl))))), List.forall_mem_cons.mpr ⟨List.mem_cons_of_mem _ (List.mem_append_left _ (List.mem_append_left _ (List.mem_append_left _ (List.mem_append_left _ (List.mem_of_getElem? (i := 13) rfl))))), List.forall_mem_cons.mpr ⟨List.mem_cons_of_mem _ (List.mem_append_left _ (List.mem_append_left _ (List.mem_append_left _ (List.mem_append_left _ (List.mem_of_getElem? (i := 3) rfl))))), List.forall_mem_cons.mpr ⟨List.mem_cons_of_mem _ (List.mem_append_left _ (List.mem_append_left _ (List.mem_append_left _ (List.mem_append_left _ (List.mem_of_getElem? (i := 14) rfl))))), List.forall_mem_cons.mpr ⟨List.mem_cons_of_mem _ (List.mem_append_left _ (List.mem_append_left _ (List.mem_append_left _ (List.mem_append_left _ (List.mem_of_getElem? (i := 15) rfl))))), List.forall_mem_cons.mpr ⟨List.mem_cons_of_mem _ (List.mem_append_left _ (List.mem_append_left _ (List.mem_append_left _ (List.mem_append_right _ (List.mem_of_getElem? (i := 0) rfl))))), List.forall_mem_cons.mpr ⟨List.mem_cons_of_mem _ (List.mem_append_left _ (List.mem_append_left _ (List.mem_append_left _ (List.mem_append_right _ (List.mem_of_getElem? (i := 1) rfl))))), List.forall_mem_cons.mpr ⟨List.mem_cons_of_mem _ (List.mem_append_left _ (List.mem_append_left _ (List.mem_append_left _ (List.mem_append_right _ (List.mem_of_getElem? (i := 2) rfl))))), List.forall_mem_cons.mpr ⟨List.mem_cons_of_mem _ (List.mem_append_left _ (List.mem_append_left _ (List.mem_append_left _ (List.mem_append_right _ (List.mem_of_getElem? (i := 3) rfl))))), (fun _ h => absurd h List.not_mem_nil)⟩⟩⟩⟩⟩⟩⟩⟩⟩⟩⟩⟩⟩⟩⟩⟩, List.forall_mem_cons.mpr ⟨List.mem_cons_of_mem _ (List.mem_append_left _ (List.mem_append_left _ (List.mem_append_left _ (List.mem_append_right _ (List.mem_of_getElem? (i := 4) rfl))))), List.forall_mem_cons.mpr ⟨List.mem_cons_of_mem _ (List.mem_append_left _ (List.mem_append_left _ (List.mem_append_left _ (List.mem_append_right _ (List.mem_of_getElem? (i := 5) rfl))))), List.forall_mem_cons.mpr ⟨List.mem_cons_of_mem _ (List.mem_append_left _ (List.mem_append_left _ (List.mem_append_left _ (List.mem_append_right _ (List.mem_of_getElem? (i := 6) rfl))))), List.forall_mem_cons.mpr ⟨List.mem_cons_of_mem _ (List.mem_append_left _ (List.mem_append_left _ (List.mem_append_left _ (List.mem_append_right _ (List.mem_of_getElem? (i := 7) rfl))))), List.forall_mem_cons.mpr ⟨List.mem_cons_of_mem _ (List.mem_append_left _ (List.mem_append_left _ (List.mem_append_left _ (List.mem_append_right _ (List.mem_of_getElem? (i := 8) rfl))))), List.forall_mem_cons.mpr ⟨List.mem_cons_of_mem _ (List.mem_append_left _ (List.mem_append_left _ (List.mem_append_left _ (List.mem_append_right _ (List.mem_of_getElem? (i := 9) rfl))))), List.forall_mem_cons.mpr ⟨List.mem_cons_of_mem _ (List.mem_append_left _ (List.mem_append_left _ (List.mem_append_left _ (List.mem_append_right _ (List.mem_of_getElem? (i := 10) rfl))))), List.forall_mem_cons.mpr ⟨List.mem_cons_of_mem _ (List.mem_append_left _ (List.mem_append_left _ (List.mem_append_left _ (List.mem_append_right _ (List.mem_of_getElem? (i := 11) rfl))))), List.forall_mem_cons.mpr ⟨List.mem_cons_of_mem _ (List.mem_append_left _ (List.mem_append_left _ (List.mem_append_left _ (List.mem_append_right _ (List.mem_of_getElem? (i := 12) rfl))))), List.forall_mem_cons.mpr ⟨List.mem_cons_of_mem _ (List.mem_append_left _ (List.mem_append_left _ (List.mem_append_left _ (List.mem_append_right _ (List.mem_of_getElem? (i := 13) rfl))))), (fun _ h => absurd h List.not_mem_nil)⟩⟩⟩⟩⟩⟩⟩⟩⟩⟩⟩, (fun _ h => List.mem_cons_of_mem _ (List.mem_append_left _ (List.mem_append_left _ (List.mem_append_right _ h))))⟩, (fun _ h => List.mem_cons_of_mem _ (List.mem_append_left _ (List.mem_append_right _ h)))⟩, (fun _ h => List.mem_cons_of_mem _ (List.mem_append_right _ h))⟩⟩⟩) (by decide +kernel)
set_option maxHeartbeats 4000000 in
set_option maxRecDepth 100000 in
theorem x_X11_item (l : Launch) (D : va_G) (sz : Nat) (sk : Value) (a : Nat → Nat) (t : Nat → ClassId) (i : Nat → Int32) (q : Int64) (c : Nat → Nat → Int32) (d : Nat → Nat → Int64) (w : Int32) (s1 : Int32) (n1 : Int32) (hI : xInv i c) : Met l yX11_item wm_X11_item ({ frames := 2, cells := 0, slots := 0, locals := 45 }) (va_Pc [.ref (a 100), .int w, .int s1, .int n1] (yB (a 186) D sz (xwT sk a t i q c d) (xtT t))) (va_Qi (fun (r : Int32) (u : MS) => True ∧ xInv u.1 u.2.2.1 ∧ (∀ k, k ∉ ([102] : List Nat) → u.1 k = i k) ∧ (∀ k, k ∉ ([101] : List Nat) → u.2.2.1 k = c k)) (oC D (va_A (xwT sk a t i q c d) sz) (fun u : MS => xwT sk a t u.1 u.2.1 u.2.2.1 u.2.2.2) (fun _ => [])) (va_A (xwT sk a t i q c d) sz)) 0 0 (va_A (xwT sk a t i q c d) sz) := by
  refine Met.ofW (cc := cX11_item) (maxL := 5) (ret := (some .int)) (by decide +kernel) rfl ?_
  intro p e s m args below meth cd s₁ B hml hv
  obtain ⟨rfl, ⟨hsz, hP, hK, hD0⟩, hN, hZ, hBW⟩ := hv
  have hx := B.exec
  have hb := B.bytes
  have hr := B.returns
  have hts := atoms_spec (ws := wm_X11_item) B.pre
  have hown : s.vm.findClass RX11 = some m.cls := findClass_of_methodNamed B.named
  have hlocks := B.notSynchronized
  subst hsz
  have hD := hD0.self (sz := s.heap.size)
  have hZ := xZ_A hZ hP hBW
  generalize hAe : va_A (xwT sk a t i q c d) s.heap.size = A at hD hZ ⊢
  have hA : ∀ q : Nat, s.heap.size ≤ q → A q := fun q h => by rw [← hAe]; exact Or.inr h
  have hS : va_S A s.heap s.heap [] := va_S.rf
  have hfi : ∀ k, k ∉ ([] : List Nat) → i k = i k := fun _ _ => rfl
  have hfc : ∀ k, k ∉ ([] : List Nat) → c k = c k := fun _ _ => rfl
  have hl := lv_entry ([.ref (a 100), .int w, .int s1, .int n1]) (n := 5) (Nat.le_of_ble_eq_true rfl)
  rw [lg_entry_eq]
  generalize (lg_sl ([.ref (a 100), .int w, .int s1, .int n1]) ++ List.replicate (5 - (lg_sl ([.ref (a 100), .int w, .int s1, .int n1])).length) Slot.unset).toArray = ls at hl ⊢
  have hl : lv_has ls 5 [(0, .ref (a 100)), (1, .int w), (2, .int s1), (3, .int n1)] := hl
  refine lv_aload_n hx hb dX11_item_0 rfl (lv_at hl 0 rfl) ?_
  refine lv_iload_n hx hb dX11_item_1 rfl (lv_at hl 1 rfl) ?_
  refine lv_iload_n hx hb dX11_item_2 rfl (lv_at hl 2 rfl) ?_
  refine lv_iload_n hx hb dX11_item_3 rfl (lv_at hl 3 rfl) ?_
  have rb111_i : 0 ≤ (i 111).toInt ∧ (i 111).toInt ≤ 30 := hI.1 111
  refine al_calli (va_runV (As := [.int w, .int s1, .int n1]) (rest := []) ⟨hx, hb, hml, hown, hts⟩ (x_X11_refuseItem l D s.heap.size sk a t i q c d w s1 n1 hI ) (cwV 3 hts gm_X11_item_X11_refuseItem_308 rfl rfl rfl (by decide +kernel) ⟨Nat.le_of_ble_eq_true rfl, Nat.le_of_ble_eq_true rfl⟩) (yB_V hN (xZ_k hZ hS hA) (xZ_n hZ hD) hK hP hD (ci := 11) (q0 := 0) rfl rfl) rfl rfl hl.1 rfl (lv_room (Nat.le_of_ble_eq_true rfl)) dX11_item_4 ⟨Nat.le_of_ble_eq_true rfl, Nat.le_of_ble_eq_true rfl⟩) hS hA hP hD (fun r1 u1 H locs hw1 hP hD hS => ?_)
  obtain ⟨i1, q1, c1, d1⟩ := u1
  have hw1 : ((r1.toInt = 0 ∧ 0 ≤ w.toInt ∧ w.toInt < (i 111).toInt ∧ 0 ≤ n1.toInt ∧ n1.toInt ≤ 11) ∨ r1.toInt = -1 ∨ r1.toInt = -3) ∧ xInv i1 c1 ∧ (∀ k, k ∉ ([102] : List Nat) → i1 k = i k) ∧ (∀ k, k ∉ ([101] : List Nat) → c1 k = c k) := hw1
  obtain ⟨hw1, hI, hei1, hec1⟩ := hw1
  have hfi : ∀ k, k ∉ ([102] : List Nat) → i1 k = i k := fr_z hfi hei1 (by decide +kernel) (by decide +kernel)
  have hfc : ∀ k, k ∉ ([101] : List Nat) → c1 k = c k := fr_z hfc hec1 (by decide +kernel) (by decide +kernel)
  refine lv_istore (lv' := [(4, .int r1), (0, .ref (a 100)), (1, .int w), (2, .int s1), (3, .int n1)]) hx hb dX11_item_7 hl (by decide +kernel) rfl (fun ls hl => ?_)
  refine lv_iload hx hb dX11_item_9 (lv_at hl 0 rfl) ?_
  refine lv_if_eq (tgt := 17) hx hb dX11_item_11 (by decide +kernel) (fun c2 => ?_) (fun c2 => ?_)
  · have f2 := (ti_eq (a := r1.toInt) (b := 0) rfl (by decide +kernel)).mp c2
    refine lv_aload_n hx hb dX11_item_17 rfl (lv_at hl 1 rfl) ?_
    refine lv_aload_n hx hb dX11_item_18 rfl (lv_at hl 1 rfl) ?_
    refine xgT_X_lines hx hb hts (fun _ h => List.mem_cons_of_mem _ (List.mem_append_left _ (List.mem_append_left _ (List.mem_append_right _ h)))) hown hK hP (hts (.fieldLink RX11 53 "TalePlay" "lines" "LTalePlay$Lines;") (List.mem_cons_of_mem _ (List.mem_append_left _ (List.mem_append_left _ (List.mem_append_left _ (List.mem_append_left _ (List.mem_of_getElem? (i := 15) rfl))))))) dX11_item_19 ?_
    refine xgT_L_items hx hb hts (fun _ h => List.mem_cons_of_mem _ (List.mem_append_right _ h)) hown hK hP (hts (.fieldLink RX11 311 "TalePlay$Lines" "items" "[J") (List.mem_cons_of_mem _ (List.mem_append_left _ (List.mem_append_left _ (List.mem_append_left _ (List.mem_append_right _ (List.mem_of_getElem? (i := 14) rfl))))))) dX11_item_22 ?_
    refine lv_iload_n hx hb dX11_item_25 rfl (lv_at hl 2 rfl) ?_
    refine lv_bipush (v := 12) hx hb dX11_item_26 (by decide +kernel) ?_
    refine lv_imul hx hb dX11_item_28 ?_
    refine lv_topi (fun x3 ex3 => ?_)
    have tx3 := ti_mul (a := w.toInt) (b := 12) ex3 rfl (by decide +kernel) (by omega) (by omega)
    refine lv_iload_n hx hb dX11_item_29 rfl (lv_at hl 4 rfl) ?_
    refine lv_iadd hx hb dX11_item_30 ?_
    refine lv_topi (fun x4 ex4 => ?_)
    have tx4 := ti_add (a := (w.toInt * 12)) (b := n1.toInt) ex4 tx3 rfl (by omega) (by omega)
    refine xlT_160 hx hb hK hP (vp_in_iff.mpr (by have h9 : x4.toInt = ((w.toInt * 12) + n1.toInt) := tx4; omega)) dX11_item_31 (fun x5 ex5 => ?_)
    refine xpT_X_told hx hb hts (fun _ h => List.mem_cons_of_mem _ (List.mem_append_left _ (List.mem_append_left _ (List.mem_append_right _ h)))) hown hK hP hD hS (hts (.fieldLink RX11 76 "TalePlay" "told" "J") (List.mem_cons_of_mem _ (List.mem_append_left _ (List.mem_append_left _ (List.mem_append_left _ (List.mem_append_right _ (List.mem_of_getElem? (i := 15) rfl))))))) rfl rfl dX11_item_32 (fun H locs hP hD hS => ?_)
    refine lv_iconst (v := 1) hx hb dX11_item_35 (by decide +kernel) ?_
    exact rw_iret (i1, x5, c1, d1) hx hb hr hlocks hS (hK.sub (tys' := []) [] rfl) hP hD dX11_item_36 ⟨trivial, hI, fr_w hfi (by decide +kernel), fr_w hfc (by decide +kernel)⟩
  · have f2 := mt (ti_eq (a := r1.toInt) (b := 0) rfl (by decide +kernel)).mpr c2
    refine lv_iload hx hb dX11_item_14 (lv_at hl 0 rfl) ?_
    exact rw_iret (i1, q1, c1, d1) hx hb hr hlocks hS (hK.sub (tys' := []) [] rfl) hP hD dX11_item_16 ⟨trivial, hI, fr_w hfi (by decide +kernel), fr_w hfc (by decide +kernel)⟩

def wm_X11_role : List Cond := .code yX11_role cX11_role 4 (some .int) :: ((([.fieldLink RX11 60 "TalePlay" "casts" "LTalePlay$Casts;", .fieldLink RX11 334 "TalePlay$Casts" "made" "I", .methodLink RX11 91 yX11_isBelow, .static yX11_isBelow, .initialized RX11, .code yX11_isBelow cX11_isBelow 2 (some .boolean), .fieldLink RX11 340 "TalePlay$Casts" "lengths" "[I", .fieldLink RX11 347 "TalePlay$Casts" "roles" "[I", .fieldLink RX11 10 "TalePlay" "world" "LTalePlay$World;", .fieldLink RX11 343 "TalePlay$Casts" "sorts" "[I", .methodLink RX11 344 yX10_isOfSort, .instanceMethod yX10_isOfSort, .selects RX10 yX10_isOfSort yX10_isOfSort, .initialized RX10, .code yX10_isOfSort cX10_isOfSort 4 (some .boolean), .methodLink RX10 40 yX10_sortOf] : List Cond) ++ (([.instanceMethod yX10_sortOf, .selects RX10 yX10_sortOf yX10_sortOf, .code yX10_sortOf cX10_sortOf 2 (some .int), .fieldLink RX10 37 "TalePlay$World" "objects" "I", .fieldLink RX10 15 "TalePlay$World" "sorts" "[I", .fieldLink RX10 21 "TalePlay$World" "kindOf" "[I", .methodLink RX11 128 yX11_answerFinding, .instanceMethod yX11_answerFinding, .selects RX11 yX11_answerFinding yX11_answerFinding, .code yX11_answerFinding cX11_answerFinding 2 (some .int), .fieldLink RX11 72 "TalePlay" "latestFinding" "I", .fieldLink RX11 68 "TalePlay" "findingCounts" "[I", .methodLink RX11 125 yX10_sortOf, .methodLink RX11 109 yX10_hasObject, .instanceMethod yX10_hasObject, .selects RX10 yX10_hasObject yX10_hasObject] : List Cond) ++ ([.code yX10_hasObject cX10_hasObject 2 (some .boolean)] : List Cond))) ++ wsX110 ++ wsX30 ++ wsX100)
set_option maxRecDepth 20000 in
theorem gm_X11_role_X11_isBelow_91 : GoodIn wm_X11_role (va_wsS RX11 91 yX11_isBelow wm_X11_isBelow) := goodIn_w (List.forall_mem_append.mpr ⟨List.forall_mem_cons.mpr ⟨List.mem_cons_of_mem _ (List.mem_append_left _ (List.mem_append_left _ (List.mem_append_left _ (List.mem_append_left _ (List.mem_of_getElem? (i := 2) rfl))))), List.forall_mem_cons.mpr ⟨List.mem_cons_of_mem _ (List.mem_append_left _ (List.mem_append_left _ (List.mem_append_left _ (List.mem_append_left _ (List.mem_of_getElem? (i := 3) rfl))))), List.forall_mem_cons.mpr ⟨List.mem_cons_of_mem _ (List.mem_append_left _ (List.mem_append_left _ (List.mem_append_left _ (List.mem_append_left _ (List.mem_of_getElem? (i := 4) rfl))))), (fun _ h => absurd h List.not_mem_nil)⟩⟩⟩, List.forall_mem_cons.mpr ⟨List.mem_cons_of_mem _ (List.mem_append_left _ (List.mem_append_left _ (List.mem_append_left _ (List.mem_append_left _ (List.mem_of_getElem? (i := 5) rfl))))), (fun _ h => absurd h List.not_mem_nil)⟩⟩) (by decide +kernel)
set_option maxRecDepth 20000 in
theorem gm_X11_role_X10_isOfSort_344 : GoodIn wm_X11_role (wsV RX11 344 RX10 yX10_isOfSort wm_X10_isOfSort) := goodIn_w (List.forall_mem_append.mpr ⟨List.forall_mem_cons.mpr ⟨List.mem_cons_of_mem _ (List.mem_append_left _ (List.mem_append_left _ (List.mem_append_left _ (List.mem_append_left _ (List.mem_of_getElem? (i := 10) rfl))))), List.forall_mem_cons.mpr ⟨List.mem_cons_of_mem _ (List.mem_append_left _ (List.mem_append_left _ (List.mem_append_left _ (List.mem_append_left _ (List.mem_of_getElem? (i := 11) rfl))))), List.forall_mem_cons.mpr ⟨List.mem_cons_of_mem _ (List.mem_append_left _ (List.mem_append_left _ (List.mem_append_left _ (List.mem_append_left _ (List.mem_of_getElem? (i := 12) rfl))))), List.forall_mem_cons.mpr ⟨List.mem_cons_of_mem _ (List.mem_append_left _ (List.mem_append_left _ (List.mem_append_left _ (List.mem_append_left _ (List.mem_of_getElem? (i := 13) rfl))))), (fun _ h => absurd h List.not_mem_nil)⟩⟩⟩⟩, List.forall_mem_cons.mpr ⟨List.mem_cons_of_mem _ (List.mem_append_left _ (List.mem_append_left _ (List.mem_append_left _ (List.mem_append_left _ (List.mem_of_getElem? (i := 14) rfl))))), List.forall_mem_append.mpr ⟨List.forall_mem_cons.mpr ⟨List.mem_cons_of_mem _ (List.mem_append_left _ (List.mem_append_left _ (List.mem_append_left _ (List.mem_append_left _ (List.mem_of_getElem? (i := 15) rfl))))), List.forall_mem_cons.mpr ⟨List.mem_cons_of_mem _ (List.mem_append_left _ (List.mem_append_left _ (List.mem_append_left _ (List.mem_append_right _ (List.mem_append_left _ (List.mem_of_getElem? (i := 0) rfl)))))), List.forall_mem_cons.mpr ⟨List.mem_cons_of_mem _ (List.mem_append_left _ (List.mem_append_left _ (List.mem_append_left _ (List.mem_append_right _ (List.mem_append_left _ (List.mem_of_getElem? (i := 1) rfl)))))), List.forall_mem_cons.mpr ⟨List.mem_cons_of_mem _ (List.mem_append_left _ (List.mem_append_left _ (List.mem_append_left _ (List.mem_append_left _ (List.mem_of_getElem? (i := 13) rfl))))), List.forall_mem_cons.mpr ⟨List.mem_cons_of_mem _ (List.mem_append_left _ (List.mem_append_left _ (List.mem_append_left _ (List.mem_append_right _ (List.mem_append_left _ (List.mem_of_getElem? (i := 2) rfl)))))), List.forall_mem_cons.mpr ⟨List.mem_cons_of_mem _ (List.mem_append_left _ (List.mem_append_left _ (List.mem_append_left _ (List.mem_append_right _ (List.mem_append_left _ (List.mem_of_getElem? (i := 3) rfl)))))), List.forall_mem_cons.mpr ⟨List.mem_cons_of_mem _ (List.mem_append_left _ (List.mem_append_left _ (List.mem_append_left _ (List.mem_append_right _ (List.mem_append_left _ (List.mem_of_getElem? (i := 4) rfl)))))), List.forall_mem_cons.mpr ⟨List.mem_cons_of_mem _ (List.mem_append_left _ (List.mem_append_left _ (List.mem_append_left _ (List.mem_append_right _ (List.mem_append_left _ (List.mem_of_getElem? (i := 5) rfl)))))), (fun _ h => absurd h List.not_mem_nil)⟩⟩⟩⟩⟩⟩⟩⟩, (fun _ h => List.mem_cons_of_mem _ (List.mem_append_right _ h))⟩⟩⟩) (by decide +kernel)
set_option maxRecDepth 20000 in
theorem gm_X11_role_X11_answerFinding_128 : GoodIn wm_X11_role (wsV RX11 128 RX11 yX11_answerFinding wm_X11_answerFinding) := goodIn_w (List.forall_mem_append.mpr ⟨List.forall_mem_cons.mpr ⟨List.mem_cons_of_mem _ (List.mem_append_left _ (List.mem_append_left _ (List.mem_append_left _ (List.mem_append_right _ (List.mem_append_left _ (List.mem_of_getElem? (i := 6) rfl)))))), List.forall_mem_cons.mpr ⟨List.mem_cons_of_mem _ (List.mem_append_left _ (List.mem_append_left _ (List.mem_append_left _ (List.mem_append_right _ (List.mem_append_left _ (List.mem_of_getElem? (i := 7) rfl)))))), List.forall_mem_cons.mpr ⟨List.mem_cons_of_mem _ (List.mem_append_left _ (List.mem_append_left _ (List.mem_append_left _ (List.mem_append_right _ (List.mem_append_left _ (List.mem_of_getElem? (i := 8) rfl)))))), List.forall_mem_cons.mpr ⟨List.mem_cons_of_mem _ (List.mem_append_left _ (List.mem_append_left _ (List.mem_append_left _ (List.mem_append_left _ (List.mem_of_getElem? (i := 4) rfl))))), (fun _ h => absurd h List.not_mem_nil)⟩⟩⟩⟩, List.forall_mem_cons.mpr ⟨List.mem_cons_of_mem _ (List.mem_append_left _ (List.mem_append_left _ (List.mem_append_left _ (List.mem_append_right _ (List.mem_append_left _ (List.mem_of_getElem? (i := 9) rfl)))))), List.forall_mem_append.mpr ⟨List.forall_mem_cons.mpr ⟨List.mem_cons_of_mem _ (List.mem_append_left _ (List.mem_append_left _ (List.mem_append_left _ (List.mem_append_right _ (List.mem_append_left _ (List.mem_of_getElem? (i := 10) rfl)))))), List.forall_mem_cons.mpr ⟨List.mem_cons_of_mem _ (List.mem_append_left _ (List.mem_append_left _ (List.mem_append_left _ (List.mem_append_right _ (List.mem_append_left _ (List.mem_of_getElem? (i := 11) rfl)))))), (fun _ h => absurd h List.not_mem_nil)⟩⟩, (fun _ h => List.mem_cons_of_mem _ (List.mem_append_left _ (List.mem_append_left _ (List.mem_append_right _ h))))⟩⟩⟩) (by decide +kernel)
set_option maxRecDepth 20000 in
theorem gm_X11_role_X10_sortOf_125 : GoodIn wm_X11_role (wsV RX11 125 RX10 yX10_sortOf wm_X10_sortOf) := goodIn_w (List.forall_mem_append.mpr ⟨List.forall_mem_cons.mpr ⟨List.mem_cons_of_mem _ (List.mem_append_left _ (List.mem_append_left _ (List.mem_append_left _ (List.mem_append_right _ (List.mem_append_left _ (List.mem_of_getElem? (i := 12) rfl)))))), List.forall_mem_cons.mpr ⟨List.mem_cons_of_mem _ (List.mem_append_left _ (List.mem_append_left _ (List.mem_append_left _ (List.mem_append_right _ (List.mem_append_left _ (List.mem_of_getElem? (i := 0) rfl)))))), List.forall_mem_cons.mpr ⟨List.mem_cons_of_mem _ (List.mem_append_left _ (List.mem_append_left _ (List.mem_append_left _ (List.mem_append_right _ (List.mem_append_left _ (List.mem_of_getElem? (i := 1) rfl)))))), List.forall_mem_cons.mpr ⟨List.mem_cons_of_mem _ (List.mem_append_left _ (List.mem_append_left _ (List.mem_append_left _ (List.mem_append_left _ (List.mem_of_getElem? (i := 13) rfl))))), (fun _ h => absurd h List.not_mem_nil)⟩⟩⟩⟩, List.forall_mem_cons.mpr ⟨List.mem_cons_of_mem _ (List.mem_append_left _ (List.mem_append_left _ (List.mem_append_left _ (List.mem_append_right _ (List.mem_append_left _ (List.mem_of_getElem? (i := 2) rfl)))))), List.forall_mem_append.mpr ⟨List.forall_mem_cons.mpr ⟨List.mem_cons_of_mem _ (List.mem_append_left _ (List.mem_append_left _ (List.mem_append_left _ (List.mem_append_right _ (List.mem_append_left _ (List.mem_of_getElem? (i := 3) rfl)))))), List.forall_mem_cons.mpr ⟨List.mem_cons_of_mem _ (List.mem_append_left _ (List.mem_append_left _ (List.mem_append_left _ (List.mem_append_right _ (List.mem_append_left _ (List.mem_of_getElem? (i := 4) rfl)))))), List.forall_mem_cons.mpr ⟨List.mem_cons_of_mem _ (List.mem_append_left _ (List.mem_append_left _ (List.mem_append_left _ (List.mem_append_right _ (List.mem_append_left _ (List.mem_of_getElem? (i := 5) rfl)))))), (fun _ h => absurd h List.not_mem_nil)⟩⟩⟩, (fun _ h => List.mem_cons_of_mem _ (List.mem_append_right _ h))⟩⟩⟩) (by decide +kernel)
set_option maxRecDepth 20000 in
theorem gm_X11_role_X10_hasObject_109 : GoodIn wm_X11_role (wsV RX11 109 RX10 yX10_hasObject wm_X10_hasObject) := goodIn_w (List.forall_mem_append.mpr ⟨List.forall_mem_cons.mpr ⟨List.mem_cons_of_mem _ (List.mem_append_left _ (List.mem_append_left _ (List.mem_append_left _ (List.mem_append_right _ (List.mem_append_left _ (List.mem_of_getElem? (i := 13) rfl)))))), List.forall_mem_cons.mpr ⟨List.mem_cons_of_mem _ (List.mem_append_left _ (List.mem_append_left _ (List.mem_append_left _ (List.mem_append_right _ (List.mem_append_left _ (List.mem_of_getElem? (i := 14) rfl)))))), List.forall_mem_cons.mpr ⟨List.mem_cons_of_mem _ (List.mem_append_left _ (List.mem_append_left _ (List.mem_append_left _ (List.mem_append_right _ (List.mem_append_left _ (List.mem_of_getElem? (i := 15) rfl)))))), List.forall_mem_cons.mpr ⟨List.mem_cons_of_mem _ (List.mem_append_left _ (List.mem_append_left _ (List.mem_append_left _ (List.mem_append_left _ (List.mem_of_getElem? (i := 13) rfl))))), (fun _ h => absurd h List.not_mem_nil)⟩⟩⟩⟩, List.forall_mem_cons.mpr ⟨List.mem_cons_of_mem _ (List.mem_append_left _ (List.mem_append_left _ (List.mem_append_left _ (List.mem_append_right _ (List.mem_append_right _ (List.mem_of_getElem? (i := 0) rfl)))))), List.forall_mem_append.mpr ⟨List.forall_mem_cons.mpr ⟨List.mem_cons_of_mem _ (List.mem_append_left _ (List.mem_append_left _ (List.mem_append_left _ (List.mem_append_right _ (List.mem_append_left _ (List.mem_of_getElem? (i := 3) rfl)))))), (fun _ h => absurd h List.not_mem_nil)⟩, (fun _ h => List.mem_cons_of_mem _ (List.mem_append_right _ h))⟩⟩⟩) (by decide +kernel)
set_option maxHeartbeats 4000000 in
set_option maxRecDepth 100000 in
theorem x_X11_role (l : Launch) (D : va_G) (sz : Nat) (sk : Value) (a : Nat → Nat) (t : Nat → ClassId) (i : Nat → Int32) (q : Int64) (c : Nat → Nat → Int32) (d : Nat → Nat → Int64) (w : Int32) (n1 : Int32) (w2 : Int32) (hI : xInv i c) : Met l yX11_role wm_X11_role ({ frames := 2, cells := 0, slots := 0, locals := 44 }) (va_Pc [.ref (a 100), .int w, .int n1, .int w2] (yB (a 186) D sz (xwT sk a t i q c d) (xtT t))) (va_Qi (fun (r : Int32) (u : MS) => True ∧ xInv u.1 u.2.2.1 ∧ (∀ k, k ∉ ([102] : List Nat) → u.1 k = i k) ∧ (∀ k, k ∉ ([101, 164] : List Nat) → u.2.2.1 k = c k)) (oC D (va_A (xwT sk a t i q c d) sz) (fun u : MS => xwT sk a t u.1 u.2.1 u.2.2.1 u.2.2.2) (fun _ => [])) (va_A (xwT sk a t i q c d) sz)) 0 0 (va_A (xwT sk a t i q c d) sz) := by
  refine Met.ofW (cc := cX11_role) (maxL := 4) (ret := (some .int)) (by decide +kernel) rfl ?_
  intro p e s m args below meth cd s₁ B hml hv
  obtain ⟨rfl, ⟨hsz, hP, hK, hD0⟩, hN, hZ, hBW⟩ := hv
  have hx := B.exec
  have hb := B.bytes
  have hr := B.returns
  have hts := atoms_spec (ws := wm_X11_role) B.pre
  have hown : s.vm.findClass RX11 = some m.cls := findClass_of_methodNamed B.named
  have hlocks := B.notSynchronized
  subst hsz
  have hD := hD0.self (sz := s.heap.size)
  have hZ := xZ_A hZ hP hBW
  generalize hAe : va_A (xwT sk a t i q c d) s.heap.size = A at hD hZ ⊢
  have hA : ∀ q : Nat, s.heap.size ≤ q → A q := fun q h => by rw [← hAe]; exact Or.inr h
  have hS : va_S A s.heap s.heap [] := va_S.rf
  have hfi : ∀ k, k ∉ ([] : List Nat) → i k = i k := fun _ _ => rfl
  have hfc : ∀ k, k ∉ ([] : List Nat) → c k = c k := fun _ _ => rfl
  have hl := lv_entry ([.ref (a 100), .int w, .int n1, .int w2]) (n := 4) (Nat.le_of_ble_eq_true rfl)
  rw [lg_entry_eq]
  generalize (lg_sl ([.ref (a 100), .int w, .int n1, .int w2]) ++ List.replicate (4 - (lg_sl ([.ref (a 100), .int w, .int n1, .int w2])).length) Slot.unset).toArray = ls at hl ⊢
  have hl : lv_has ls 4 [(0, .ref (a 100)), (1, .int w), (2, .int n1), (3, .int w2)] := hl
  have rb111_i : 0 ≤ (i 111).toInt ∧ (i 111).toInt ≤ 30 := hI.1 111
  refine lv_iload_n hx hb dX11_role_0 rfl (lv_at hl 1 rfl) ?_
  refine lv_aload_n hx hb dX11_role_1 rfl (lv_at hl 0 rfl) ?_
  refine xgT_X_casts hx hb hts (fun _ h => List.mem_cons_of_mem _ (List.mem_append_left _ (List.mem_append_left _ (List.mem_append_right _ h)))) hown hK hP (hts (.fieldLink RX11 60 "TalePlay" "casts" "LTalePlay$Casts;") (List.mem_cons_of_mem _ (List.mem_append_left _ (List.mem_append_left _ (List.mem_append_left _ (List.mem_append_left _ (List.mem_of_getElem? (i := 0) rfl))))))) dX11_role_2 ?_
  refine xgT_C_made (v := (i 165)) rfl hx hb hts (fun _ h => List.mem_cons_of_mem _ (List.mem_append_left _ (List.mem_append_right _ h))) hown hK hP (hts (.fieldLink RX11 334 "TalePlay$Casts" "made" "I") (List.mem_cons_of_mem _ (List.mem_append_left _ (List.mem_append_left _ (List.mem_append_left _ (List.mem_append_left _ (List.mem_of_getElem? (i := 1) rfl))))))) dX11_role_5 ?_
  have rb165_i : 0 ≤ (i 165).toInt ∧ (i 165).toInt ≤ 10 := hI.1 165
  have hPc := hP.sub (ws' := []) [] rfl
  have hKc := hK.sub (tys' := []) [] rfl
  refine ro_calli (va_runS (As := [.int w, .int (i 165)]) (rest := []) ⟨hx, hb, hml, hown, hts⟩ (c_X11_isBelow l D s.heap.size w (i 165) w.toInt ((i 165).toInt) rfl rfl) (va_cwS 2 hts gm_X11_role_X11_isBelow_91 rfl rfl rfl (by decide +kernel) ⟨Nat.le_of_ble_eq_true rfl, Nat.le_of_ble_eq_true rfl⟩) (pA_S hKc hPc) rfl rfl hl.1 rfl (lv_room (Nat.le_of_ble_eq_true rfl)) dX11_role_8 ⟨Nat.le_of_ble_eq_true rfl, Nat.le_of_ble_eq_true rfl⟩) hS hA hP (fun r2 u2 H locs hw2 hP hS => ?_)
  have hw2 : r2 = if (0 ≤ w.toInt ∧ w.toInt < ((i 165).toInt)) then 1 else 0 := hw2
  refine lv_if_eq (tgt := 31) hx hb dX11_role_11 (by decide +kernel) (fun c3 => ?_) (fun c3 => ?_)
  · have f3 := fl_f hw2 c3
    refine lv_iconst (v := (-1)) hx hb dX11_role_31 (by decide +kernel) ?_
    exact rw_iret (i, q, c, d) hx hb hr hlocks hS (hK.sub (tys' := []) [] rfl) hP hD dX11_role_32 ⟨trivial, hI, fr_w hfi (by decide +kernel), fr_w hfc (by decide +kernel)⟩
  · have f3 := fl_t hw2 c3
    refine lv_iload_n hx hb dX11_role_14 rfl (lv_at hl 3 rfl) ?_
    refine lv_bipush (v := (-9)) hx hb dX11_role_15 (by decide +kernel) ?_
    have jn4 : (w2.toInt = -9 ∨ (0 ≤ w2.toInt ∧ w2.toInt < (i 111).toInt)) → ∀ (H : Heap) (locs : List Loc) (ls : Array Slot), va_P D vwCl (xwT sk a t i q c d) H → va_D A (xwT sk a t i q c d) → va_S A s.heap H locs → lv_has ls 4 [(0, .ref (a 100)), (1, .int w), (2, .int n1), (3, .int w2)] → W p l e (headSpec wm_X11_role ({ frames := 2, cells := 0, slots := 0, locals := 44 })).room s m ([.ref (a 100), .int w, .int n1, .int w2] : List Value).toArray below meth cd H locs 0 0 (MQ below (va_Qi (fun (r : Int32) (u : MS) => True ∧ xInv u.1 u.2.2.1 ∧ (∀ k, k ∉ ([102] : List Nat) → u.1 k = i k) ∧ (∀ k, k ∉ ([101, 164] : List Nat) → u.2.2.1 k = c k)) (oC D A (fun u : MS => xwT sk a t u.1 u.2.1 u.2.2.1 u.2.2.2) (fun _ => [])) A) ([.ref (a 100), .int w, .int n1, .int w2] : List Value).toArray s 0 0 A) (F0 m 33 ls []) := by
      intro hz4_0 H locs ls hP hD hS hl
      refine lv_iload_n hx hb dX11_role_33 rfl (lv_at hl 3 rfl) ?_
      refine lv_bipush (v := (-9)) hx hb dX11_role_34 (by decide +kernel) ?_
      have jn5 : ∀ (H : Heap) (locs : List Loc) (ls : Array Slot), va_P D vwCl (xwT sk a t i q c d) H → va_D A (xwT sk a t i q c d) → va_S A s.heap H locs → lv_has ls 4 [(0, .ref (a 100)), (1, .int w), (2, .int n1), (3, .int w2)] → W p l e (headSpec wm_X11_role ({ frames := 2, cells := 0, slots := 0, locals := 44 })).room s m ([.ref (a 100), .int w, .int n1, .int w2] : List Value).toArray below meth cd H locs 0 0 (MQ below (va_Qi (fun (r : Int32) (u : MS) => True ∧ xInv u.1 u.2.2.1 ∧ (∀ k, k ∉ ([102] : List Nat) → u.1 k = i k) ∧ (∀ k, k ∉ ([101, 164] : List Nat) → u.2.2.1 k = c k)) (oC D A (fun u : MS => xwT sk a t u.1 u.2.1 u.2.2.1 u.2.2.2) (fun _ => [])) A) ([.ref (a 100), .int w, .int n1, .int w2] : List Value).toArray s 0 0 A) (F0 m 56 ls []) := by
        intro H locs ls hP hD hS hl
        refine lv_iload_n hx hb dX11_role_56 rfl (lv_at hl 2 rfl) ?_
        refine lv_aload_n hx hb dX11_role_57 rfl (lv_at hl 0 rfl) ?_
        refine xgT_X_casts hx hb hts (fun _ h => List.mem_cons_of_mem _ (List.mem_append_left _ (List.mem_append_left _ (List.mem_append_right _ h)))) hown hK hP (hts (.fieldLink RX11 60 "TalePlay" "casts" "LTalePlay$Casts;") (List.mem_cons_of_mem _ (List.mem_append_left _ (List.mem_append_left _ (List.mem_append_left _ (List.mem_append_left _ (List.mem_of_getElem? (i := 0) rfl))))))) dX11_role_58 ?_
        refine xgT_C_lengths hx hb hts (fun _ h => List.mem_cons_of_mem _ (List.mem_append_left _ (List.mem_append_right _ h))) hown hK hP (hts (.fieldLink RX11 340 "TalePlay$Casts" "lengths" "[I") (List.mem_cons_of_mem _ (List.mem_append_left _ (List.mem_append_left _ (List.mem_append_left _ (List.mem_append_left _ (List.mem_of_getElem? (i := 6) rfl))))))) dX11_role_61 ?_
        refine lv_iload_n hx hb dX11_role_64 rfl (lv_at hl 1 rfl) ?_
        refine xlT_163 hx hb hK hP (vp_in_iff.mpr (by have h9 : w.toInt = w.toInt := rfl; omega)) dX11_role_65 (fun x6 ex6 => ?_)
        have rx6 : 0 ≤ x6.toInt ∧ x6.toInt ≤ 12 := by rw [ex6]; exact hI.2 163 _
        have hPc := hP.sub (ws' := []) [] rfl
        have hKc := hK.sub (tys' := []) [] rfl
        refine ro_calli (va_runS (As := [.int n1, .int x6]) (rest := []) ⟨hx, hb, hml, hown, hts⟩ (c_X11_isBelow l D H.size n1 x6 n1.toInt x6.toInt rfl rfl) (va_cwS 2 hts gm_X11_role_X11_isBelow_91 rfl rfl rfl (by decide +kernel) ⟨Nat.le_of_ble_eq_true rfl, Nat.le_of_ble_eq_true rfl⟩) (pA_S hKc hPc) rfl rfl hl.1 rfl (lv_room (Nat.le_of_ble_eq_true rfl)) dX11_role_66 ⟨Nat.le_of_ble_eq_true rfl, Nat.le_of_ble_eq_true rfl⟩) hS hA hP (fun r8 u8 H locs hw8 hP hS => ?_)
        have hw8 : r8 = if (0 ≤ n1.toInt ∧ n1.toInt < x6.toInt) then 1 else 0 := hw8
        refine lv_if_ne (tgt := 78) hx hb dX11_role_69 (by decide +kernel) (fun c9 => ?_) (fun c9 => ?_)
        · have f9 := fl_t hw8 c9
          refine lv_iload_n hx hb dX11_role_78 rfl (lv_at hl 3 rfl) ?_
          refine lv_bipush (v := (-9)) hx hb dX11_role_79 (by decide +kernel) ?_
          have jn10 : ∀ (H : Heap) (locs : List Loc) (ls : Array Slot), va_P D vwCl (xwT sk a t i q c d) H → va_D A (xwT sk a t i q c d) → va_S A s.heap H locs → lv_has ls 4 [(0, .ref (a 100)), (1, .int w), (2, .int n1), (3, .int w2)] → W p l e (headSpec wm_X11_role ({ frames := 2, cells := 0, slots := 0, locals := 44 })).room s m ([.ref (a 100), .int w, .int n1, .int w2] : List Value).toArray below meth cd H locs 0 0 (MQ below (va_Qi (fun (r : Int32) (u : MS) => True ∧ xInv u.1 u.2.2.1 ∧ (∀ k, k ∉ ([102] : List Nat) → u.1 k = i k) ∧ (∀ k, k ∉ ([101, 164] : List Nat) → u.2.2.1 k = c k)) (oC D A (fun u : MS => xwT sk a t u.1 u.2.1 u.2.2.1 u.2.2.2) (fun _ => [])) A) ([.ref (a 100), .int w, .int n1, .int w2] : List Value).toArray s 0 0 A) (F0 m 111 ls []) := by
            intro H locs ls hP hD hS hl
            refine lv_aload_n hx hb dX11_role_111 rfl (lv_at hl 0 rfl) ?_
            refine xgT_X_casts hx hb hts (fun _ h => List.mem_cons_of_mem _ (List.mem_append_left _ (List.mem_append_left _ (List.mem_append_right _ h)))) hown hK hP (hts (.fieldLink RX11 60 "TalePlay" "casts" "LTalePlay$Casts;") (List.mem_cons_of_mem _ (List.mem_append_left _ (List.mem_append_left _ (List.mem_append_left _ (List.mem_append_left _ (List.mem_of_getElem? (i := 0) rfl))))))) dX11_role_112 ?_
            refine xgT_C_roles hx hb hts (fun _ h => List.mem_cons_of_mem _ (List.mem_append_left _ (List.mem_append_right _ h))) hown hK hP (hts (.fieldLink RX11 347 "TalePlay$Casts" "roles" "[I") (List.mem_cons_of_mem _ (List.mem_append_left _ (List.mem_append_left _ (List.mem_append_left _ (List.mem_append_left _ (List.mem_of_getElem? (i := 7) rfl))))))) dX11_role_115 ?_
            refine lv_iload_n hx hb dX11_role_118 rfl (lv_at hl 1 rfl) ?_
            refine lv_bipush (v := 12) hx hb dX11_role_119 (by decide +kernel) ?_
            refine lv_imul hx hb dX11_role_121 ?_
            refine lv_topi (fun x11 ex11 => ?_)
            have tx11 := ti_mul (a := w.toInt) (b := 12) ex11 rfl (by decide +kernel) (by omega) (by omega)
            refine lv_iload_n hx hb dX11_role_122 rfl (lv_at hl 2 rfl) ?_
            refine lv_iadd hx hb dX11_role_123 ?_
            refine lv_topi (fun x12 ex12 => ?_)
            have tx12 := ti_add (a := (w.toInt * 12)) (b := n1.toInt) ex12 tx11 rfl (by omega) (by omega)
            refine lv_iload_n hx hb dX11_role_124 rfl (lv_at hl 3 rfl) ?_
            refine xsT_164 hx hb hK hP hD hS (vp_in_iff.mpr (by have h9 : x12.toInt = ((w.toInt * 12) + n1.toInt) := tx12; omega)) dX11_role_125 (fun H locs hP hD hS => ?_)
            have hI := xInv_c hI (k := 164) (j := (x12 : Int32).toNatClampNeg) (x := w2) (show (w2 : Int32).toInt = -9 ∨ (0 ≤ (w2 : Int32).toInt ∧ (w2 : Int32).toInt ≤ 29) from by omega)
            have hfc : ∀ k, k ∉ ([164] : List Nat) → (updA c 164 (x12 : Int32).toNatClampNeg w2) k = c k := fr_cz hfc (by decide +kernel) (by decide +kernel)
            refine lv_iconst (v := 1) hx hb dX11_role_126 (by decide +kernel) ?_
            exact rw_iret (i, q, (updA c 164 (x12 : Int32).toNatClampNeg w2), d) hx hb hr hlocks hS (hK.sub (tys' := []) [] rfl) hP hD dX11_role_127 ⟨trivial, hI, fr_w hfi (by decide +kernel), fr_w hfc (by decide +kernel)⟩
          refine lv_icmp_eq (tgt := 111) hx hb dX11_role_81 (by decide +kernel) (fun c13 => ?_) (fun c13 => ?_)
          · have f13 := (ti_eq (a := w2.toInt) (b := (-9)) rfl (by decide +kernel)).mp c13
            exact jn10    _ _ _ hP hD hS (lv_sub hl [0, 1, 2, 3] rfl)
          · have f13 := mt (ti_eq (a := w2.toInt) (b := (-9)) rfl (by decide +kernel)).mpr c13
            refine lv_aload_n hx hb dX11_role_84 rfl (lv_at hl 0 rfl) ?_
            refine xgT_X_world hx hb hts (fun _ h => List.mem_cons_of_mem _ (List.mem_append_left _ (List.mem_append_left _ (List.mem_append_right _ h)))) hown hK hP (hts (.fieldLink RX11 10 "TalePlay" "world" "LTalePlay$World;") (List.mem_cons_of_mem _ (List.mem_append_left _ (List.mem_append_left _ (List.mem_append_left _ (List.mem_append_left _ (List.mem_of_getElem? (i := 8) rfl))))))) dX11_role_85 ?_
            refine lv_iload_n hx hb dX11_role_88 rfl (lv_at hl 3 rfl) ?_
            refine lv_aload_n hx hb dX11_role_89 rfl (lv_at hl 0 rfl) ?_
            refine xgT_X_casts hx hb hts (fun _ h => List.mem_cons_of_mem _ (List.mem_append_left _ (List.mem_append_left _ (List.mem_append_right _ h)))) hown hK hP (hts (.fieldLink RX11 60 "TalePlay" "casts" "LTalePlay$Casts;") (List.mem_cons_of_mem _ (List.mem_append_left _ (List.mem_append_left _ (List.mem_append_left _ (List.mem_append_left _ (List.mem_of_getElem? (i := 0) rfl))))))) dX11_role_90 ?_
            refine xgT_C_sorts hx hb hts (fun _ h => List.mem_cons_of_mem _ (List.mem_append_left _ (List.mem_append_right _ h))) hown hK hP (hts (.fieldLink RX11 343 "TalePlay$Casts" "sorts" "[I") (List.mem_cons_of_mem _ (List.mem_append_left _ (List.mem_append_left _ (List.mem_append_left _ (List.mem_append_left _ (List.mem_of_getElem? (i := 9) rfl))))))) dX11_role_93 ?_
            refine lv_iload_n hx hb dX11_role_96 rfl (lv_at hl 1 rfl) ?_
            refine xlT_162 hx hb hK hP (vp_in_iff.mpr (by have h9 : w.toInt = w.toInt := rfl; omega)) dX11_role_97 (fun x14 ex14 => ?_)
            have rx14 : 0 ≤ x14.toInt ∧ x14.toInt ≤ 5 := by rw [ex14]; exact hI.2 162 _
            refine ro_calli (va_runV (As := [.int w2, .int x14]) (rest := []) ⟨hx, hb, hml, hown, hts⟩ (x_X10_isOfSort l D H.size .null a t i q c d w2 x14 hI ) (cwV 2 hts gm_X11_role_X10_isOfSort_344 rfl rfl rfl (by decide +kernel) ⟨Nat.le_of_ble_eq_true rfl, Nat.le_of_ble_eq_true rfl⟩) (yA_V hN (xZ_k hZ hS hA) (xkT_W hK) (xuT_W (sk := sk) hP) (ci := 10) (q0 := 0) rfl rfl) rfl rfl hl.1 rfl (lv_room (Nat.le_of_ble_eq_true rfl)) dX11_role_98 ⟨Nat.le_of_ble_eq_true rfl, Nat.le_of_ble_eq_true rfl⟩) hS hA hP (fun r15 u15 H locs hw15 hP hS => ?_)
            have hw15 : (0 ≤ r15.toInt ∧ r15.toInt ≤ 1) := hw15
            refine lv_if_ne (tgt := 111) hx hb dX11_role_101 (by decide +kernel) (fun c16 => ?_) (fun c16 => ?_)
            · have f16 := mt (ti_eq (a := r15.toInt) (b := 0) rfl (by decide +kernel)).mpr c16
              exact jn10    _ _ _ hP hD hS (lv_sub hl [0, 1, 2, 3] rfl)
            · have f16 := (ti_eq (a := r15.toInt) (b := 0) rfl (by decide +kernel)).mp c16
              refine lv_aload_n hx hb dX11_role_104 rfl (lv_at hl 0 rfl) ?_
              refine lv_bipush (v := 6) hx hb dX11_role_105 (by decide +kernel) ?_
              refine al_calli (va_runV (As := [.int 6]) (rest := []) ⟨hx, hb, hml, hown, hts⟩ (x_X11_answerFinding l D H.size sk a t i q c d 6 hI (show 1 ≤ 6 ∧ 6 ≤ 6 from by decide +kernel)) (cwV 1 hts gm_X11_role_X11_answerFinding_128 rfl rfl rfl (by decide +kernel) ⟨Nat.le_of_ble_eq_true rfl, Nat.le_of_ble_eq_true rfl⟩) (yB_V hN (xZ_k hZ hS hA) (xZ_n hZ hD) hK hP hD (ci := 11) (q0 := 0) rfl rfl) rfl rfl hl.1 rfl (lv_room (Nat.le_of_ble_eq_true rfl)) dX11_role_107 ⟨Nat.le_of_ble_eq_true rfl, Nat.le_of_ble_eq_true rfl⟩) hS hA hP hD (fun r17 u17 H locs hw17 hP hD hS => ?_)
              obtain ⟨i17, q17, c17, d17⟩ := u17
              have hw17 : r17 = (-3) ∧ xInv i17 c17 ∧ (∀ k, k ∉ ([102] : List Nat) → i17 k = i k) ∧ (∀ k, k ∉ ([101] : List Nat) → c17 k = c k) := hw17
              obtain ⟨hw17, hI, hei17, hec17⟩ := hw17
              have hfi : ∀ k, k ∉ ([102] : List Nat) → i17 k = i k := fr_z hfi hei17 (by decide +kernel) (by decide +kernel)
              have hfc : ∀ k, k ∉ ([101] : List Nat) → c17 k = c k := fr_z hfc hec17 (by decide +kernel) (by decide +kernel)
              have hw17 : r17 = (-3) := hw17
              subst hw17
              exact rw_iret (i17, q17, c17, d17) hx hb hr hlocks hS (hK.sub (tys' := []) [] rfl) hP hD dX11_role_110 ⟨trivial, hI, fr_w hfi (by decide +kernel), fr_w hfc (by decide +kernel)⟩
        · have f9 := fl_f hw8 c9
          refine lv_aload_n hx hb dX11_role_72 rfl (lv_at hl 0 rfl) ?_
          refine lv_iconst (v := 2) hx hb dX11_role_73 (by decide +kernel) ?_
          refine al_calli (va_runV (As := [.int 2]) (rest := []) ⟨hx, hb, hml, hown, hts⟩ (x_X11_answerFinding l D H.size sk a t i q c d 2 hI (show 1 ≤ 2 ∧ 2 ≤ 6 from by decide +kernel)) (cwV 1 hts gm_X11_role_X11_answerFinding_128 rfl rfl rfl (by decide +kernel) ⟨Nat.le_of_ble_eq_true rfl, Nat.le_of_ble_eq_true rfl⟩) (yB_V hN (xZ_k hZ hS hA) (xZ_n hZ hD) hK hP hD (ci := 11) (q0 := 0) rfl rfl) rfl rfl hl.1 rfl (lv_room (Nat.le_of_ble_eq_true rfl)) dX11_role_74 ⟨Nat.le_of_ble_eq_true rfl, Nat.le_of_ble_eq_true rfl⟩) hS hA hP hD (fun r18 u18 H locs hw18 hP hD hS => ?_)
          obtain ⟨i18, q18, c18, d18⟩ := u18
          have hw18 : r18 = (-3) ∧ xInv i18 c18 ∧ (∀ k, k ∉ ([102] : List Nat) → i18 k = i k) ∧ (∀ k, k ∉ ([101] : List Nat) → c18 k = c k) := hw18
          obtain ⟨hw18, hI, hei18, hec18⟩ := hw18
          have hfi : ∀ k, k ∉ ([102] : List Nat) → i18 k = i k := fr_z hfi hei18 (by decide +kernel) (by decide +kernel)
          have hfc : ∀ k, k ∉ ([101] : List Nat) → c18 k = c k := fr_z hfc hec18 (by decide +kernel) (by decide +kernel)
          have hw18 : r18 = (-3) := hw18
          subst hw18
          exact rw_iret (i18, q18, c18, d18) hx hb hr hlocks hS (hK.sub (tys' := []) [] rfl) hP hD dX11_role_77 ⟨trivial, hI, fr_w hfi (by decide +kernel), fr_w hfc (by decide +kernel)⟩
      refine lv_icmp_eq (tgt := 56) hx hb dX11_role_36 (by decide +kernel) (fun c19 => ?_) (fun c19 => ?_)
      · have f19 := (ti_eq (a := w2.toInt) (b := (-9)) rfl (by decide +kernel)).mp c19
        exact jn5    _ _ _ hP hD hS (lv_sub hl [0, 1, 2, 3] rfl)
      · have f19 := mt (ti_eq (a := w2.toInt) (b := (-9)) rfl (by decide +kernel)).mpr c19
        refine lv_aload_n hx hb dX11_role_39 rfl (lv_at hl 0 rfl) ?_
        refine xgT_X_world hx hb hts (fun _ h => List.mem_cons_of_mem _ (List.mem_append_left _ (List.mem_append_left _ (List.mem_append_right _ h)))) hown hK hP (hts (.fieldLink RX11 10 "TalePlay" "world" "LTalePlay$World;") (List.mem_cons_of_mem _ (List.mem_append_left _ (List.mem_append_left _ (List.mem_append_left _ (List.mem_append_left _ (List.mem_of_getElem? (i := 8) rfl))))))) dX11_role_40 ?_
        refine lv_iload_n hx hb dX11_role_43 rfl (lv_at hl 3 rfl) ?_
        refine ro_calli (va_runV (As := [.int w2]) (rest := []) ⟨hx, hb, hml, hown, hts⟩ (x_X10_sortOf l D H.size .null a t i q c d w2 hI ) (cwV 1 hts gm_X11_role_X10_sortOf_125 rfl rfl rfl (by decide +kernel) ⟨Nat.le_of_ble_eq_true rfl, Nat.le_of_ble_eq_true rfl⟩) (yA_V hN (xZ_k hZ hS hA) (xkT_W hK) (xuT_W (sk := sk) hP) (ci := 10) (q0 := 0) rfl rfl) rfl rfl hl.1 rfl (lv_room (Nat.le_of_ble_eq_true rfl)) dX11_role_44 ⟨Nat.le_of_ble_eq_true rfl, Nat.le_of_ble_eq_true rfl⟩) hS hA hP (fun r20 u20 H locs hw20 hP hS => ?_)
        have hw20 : ((r20.toInt = -9 ∧ ¬ (0 ≤ w2.toInt ∧ w2.toInt < (i 111).toInt)) ∨ (0 ≤ r20.toInt ∧ r20.toInt ≤ 5 ∧ 0 ≤ w2.toInt ∧ w2.toInt < (i 111).toInt)) := hw20
        refine lv_if_ne (tgt := 56) hx hb dX11_role_47 (by decide +kernel) (fun c21 => ?_) (fun c21 => ?_)
        · have f21 := mt (ti_eq (a := r20.toInt) (b := 0) rfl (by decide +kernel)).mpr c21
          exact jn5    _ _ _ hP hD hS (lv_sub hl [0, 1, 2, 3] rfl)
        · have f21 := (ti_eq (a := r20.toInt) (b := 0) rfl (by decide +kernel)).mp c21
          refine lv_aload_n hx hb dX11_role_50 rfl (lv_at hl 0 rfl) ?_
          refine lv_iconst (v := 3) hx hb dX11_role_51 (by decide +kernel) ?_
          refine al_calli (va_runV (As := [.int 3]) (rest := []) ⟨hx, hb, hml, hown, hts⟩ (x_X11_answerFinding l D H.size sk a t i q c d 3 hI (show 1 ≤ 3 ∧ 3 ≤ 6 from by decide +kernel)) (cwV 1 hts gm_X11_role_X11_answerFinding_128 rfl rfl rfl (by decide +kernel) ⟨Nat.le_of_ble_eq_true rfl, Nat.le_of_ble_eq_true rfl⟩) (yB_V hN (xZ_k hZ hS hA) (xZ_n hZ hD) hK hP hD (ci := 11) (q0 := 0) rfl rfl) rfl rfl hl.1 rfl (lv_room (Nat.le_of_ble_eq_true rfl)) dX11_role_52 ⟨Nat.le_of_ble_eq_true rfl, Nat.le_of_ble_eq_true rfl⟩) hS hA hP hD (fun r22 u22 H locs hw22 hP hD hS => ?_)
          obtain ⟨i22, q22, c22, d22⟩ := u22
          have hw22 : r22 = (-3) ∧ xInv i22 c22 ∧ (∀ k, k ∉ ([102] : List Nat) → i22 k = i k) ∧ (∀ k, k ∉ ([101] : List Nat) → c22 k = c k) := hw22
          obtain ⟨hw22, hI, hei22, hec22⟩ := hw22
          have hfi : ∀ k, k ∉ ([102] : List Nat) → i22 k = i k := fr_z hfi hei22 (by decide +kernel) (by decide +kernel)
          have hfc : ∀ k, k ∉ ([101] : List Nat) → c22 k = c k := fr_z hfc hec22 (by decide +kernel) (by decide +kernel)
          have hw22 : r22 = (-3) := hw22
          subst hw22
          exact rw_iret (i22, q22, c22, d22) hx hb hr hlocks hS (hK.sub (tys' := []) [] rfl) hP hD dX11_role_55 ⟨trivial, hI, fr_w hfi (by decide +kernel), fr_w hfc (by decide +kernel)⟩
    refine lv_icmp_eq (tgt := 33) hx hb dX11_role_17 (by decide +kernel) (fun c23 => ?_) (fun c23 => ?_)
    · have f23 := (ti_eq (a := w2.toInt) (b := (-9)) rfl (by decide +kernel)).mp c23
      exact jn4   (show w2.toInt = -9 ∨ (0 ≤ w2.toInt ∧ w2.toInt < (i 111).toInt) from by omega) _ _ _ hP hD hS (lv_sub hl [0, 1, 2, 3] rfl)
    · have f23 := mt (ti_eq (a := w2.toInt) (b := (-9)) rfl (by decide +kernel)).mpr c23
      refine lv_aload_n hx hb dX11_role_20 rfl (lv_at hl 0 rfl) ?_
      refine xgT_X_world hx hb hts (fun _ h => List.mem_cons_of_mem _ (List.mem_append_left _ (List.mem_append_left _ (List.mem_append_right _ h)))) hown hK hP (hts (.fieldLink RX11 10 "TalePlay" "world" "LTalePlay$World;") (List.mem_cons_of_mem _ (List.mem_append_left _ (List.mem_append_left _ (List.mem_append_left _ (List.mem_append_left _ (List.mem_of_getElem? (i := 8) rfl))))))) dX11_role_21 ?_
      refine lv_iload_n hx hb dX11_role_24 rfl (lv_at hl 3 rfl) ?_
      refine ro_calli (va_runV (As := [.int w2]) (rest := []) ⟨hx, hb, hml, hown, hts⟩ (x_X10_hasObject l D H.size .null a t i q c d w2 hI ) (cwV 1 hts gm_X11_role_X10_hasObject_109 rfl rfl rfl (by decide +kernel) ⟨Nat.le_of_ble_eq_true rfl, Nat.le_of_ble_eq_true rfl⟩) (yA_V hN (xZ_k hZ hS hA) (xkT_W hK) (xuT_W (sk := sk) hP) (ci := 10) (q0 := 0) rfl rfl) rfl rfl hl.1 rfl (lv_room (Nat.le_of_ble_eq_true rfl)) dX11_role_25 ⟨Nat.le_of_ble_eq_true rfl, Nat.le_of_ble_eq_true rfl⟩) hS hA hP (fun r24 u24 H locs hw24 hP hS => ?_)
      have hw24 : r24 = if (0 ≤ w2.toInt ∧ w2.toInt < (i 111).toInt) then 1 else 0 := hw24
      refine lv_if_ne (tgt := 33) hx hb dX11_role_28 (by decide +kernel) (fun c25 => ?_) (fun c25 => ?_)
      · have f25 := fl_t hw24 c25
        exact jn4   (show w2.toInt = -9 ∨ (0 ≤ w2.toInt ∧ w2.toInt < (i 111).toInt) from by omega) _ _ _ hP hD hS (lv_sub hl [0, 1, 2, 3] rfl)
      · have f25 := fl_f hw24 c25
        refine lv_iconst (v := (-1)) hx hb dX11_role_31 (by decide +kernel) ?_
        exact rw_iret (i, q, c, d) hx hb hr hlocks hS (hK.sub (tys' := []) [] rfl) hP hD dX11_role_32 ⟨trivial, hI, fr_w hfi (by decide +kernel), fr_w hfc (by decide +kernel)⟩

def wm_X11_who : List Cond := .code yX11_who cX11_who 4 (some .int) :: (([.fieldLink RX11 60 "TalePlay" "casts" "LTalePlay$Casts;", .fieldLink RX11 334 "TalePlay$Casts" "made" "I", .methodLink RX11 91 yX11_isBelow, .static yX11_isBelow, .initialized RX11, .code yX11_isBelow cX11_isBelow 2 (some .boolean), .fieldLink RX11 340 "TalePlay$Casts" "lengths" "[I", .fieldLink RX11 347 "TalePlay$Casts" "roles" "[I", .methodLink RX11 128 yX11_answerFinding, .instanceMethod yX11_answerFinding, .selects RX11 yX11_answerFinding yX11_answerFinding, .code yX11_answerFinding cX11_answerFinding 2 (some .int), .fieldLink RX11 72 "TalePlay" "latestFinding" "I", .fieldLink RX11 68 "TalePlay" "findingCounts" "[I"] : List Cond) ++ wsX110 ++ wsX30)
set_option maxRecDepth 20000 in
theorem gm_X11_who_X11_isBelow_91 : GoodIn wm_X11_who (va_wsS RX11 91 yX11_isBelow wm_X11_isBelow) := goodIn_w (List.forall_mem_append.mpr ⟨List.forall_mem_cons.mpr ⟨List.mem_cons_of_mem _ (List.mem_append_left _ (List.mem_append_left _ (List.mem_of_getElem? (i := 2) rfl))), List.forall_mem_cons.mpr ⟨List.mem_cons_of_mem _ (List.mem_append_left _ (List.mem_append_left _ (List.mem_of_getElem? (i := 3) rfl))), List.forall_mem_cons.mpr ⟨List.mem_cons_of_mem _ (List.mem_append_left _ (List.mem_append_left _ (List.mem_of_getElem? (i := 4) rfl))), (fun _ h => absurd h List.not_mem_nil)⟩⟩⟩, List.forall_mem_cons.mpr ⟨List.mem_cons_of_mem _ (List.mem_append_left _ (List.mem_append_left _ (List.mem_of_getElem? (i := 5) rfl))), (fun _ h => absurd h List.not_mem_nil)⟩⟩) (by decide +kernel)
set_option maxRecDepth 20000 in
theorem gm_X11_who_X11_answerFinding_128 : GoodIn wm_X11_who (wsV RX11 128 RX11 yX11_answerFinding wm_X11_answerFinding) := goodIn_w (List.forall_mem_append.mpr ⟨List.forall_mem_cons.mpr ⟨List.mem_cons_of_mem _ (List.mem_append_left _ (List.mem_append_left _ (List.mem_of_getElem? (i := 8) rfl))), List.forall_mem_cons.mpr ⟨List.mem_cons_of_mem _ (List.mem_append_left _ (List.mem_append_left _ (List.mem_of_getElem? (i := 9) rfl))), List.forall_mem_cons.mpr ⟨List.mem_cons_of_mem _ (List.mem_append_left _ (List.mem_append_left _ (List.mem_of_getElem? (i := 10) rfl))), List.forall_mem_cons.mpr ⟨List.mem_cons_of_mem _ (List.mem_append_left _ (List.mem_append_left _ (List.mem_of_getElem? (i := 4) rfl))), (fun _ h => absurd h List.not_mem_nil)⟩⟩⟩⟩, List.forall_mem_cons.mpr ⟨List.mem_cons_of_mem _ (List.mem_append_left _ (List.mem_append_left _ (List.mem_of_getElem? (i := 11) rfl))), List.forall_mem_append.mpr ⟨List.forall_mem_cons.mpr ⟨List.mem_cons_of_mem _ (List.mem_append_left _ (List.mem_append_left _ (List.mem_of_getElem? (i := 12) rfl))), List.forall_mem_cons.mpr ⟨List.mem_cons_of_mem _ (List.mem_append_left _ (List.mem_append_left _ (List.mem_of_getElem? (i := 13) rfl))), (fun _ h => absurd h List.not_mem_nil)⟩⟩, (fun _ h => List.mem_cons_of_mem _ (List.mem_append_left _ (List.mem_append_right _ h)))⟩⟩⟩) (by decide +kernel)
set_option maxHeartbeats 4000000 in
set_option maxRecDepth 100000 in
theorem x_X11_who (l : Launch) (D : va_G) (sz : Nat) (sk : Value) (a : Nat → Nat) (t : Nat → ClassId) (i : Nat → Int32) (q : Int64) (c : Nat → Nat → Int32) (d : Nat → Nat → Int64) (w : Int32) (n1 : Int32) (hI : xInv i c) : Met l yX11_who wm_X11_who ({ frames := 1, cells := 0, slots := 0, locals := 21 }) (va_Pc [.ref (a 100), .int w, .int n1] (yB (a 186) D sz (xwT sk a t i q c d) (xtT t))) (va_Qi (fun (r : Int32) (u : MS) => True ∧ xInv u.1 u.2.2.1 ∧ (∀ k, k ∉ ([102] : List Nat) → u.1 k = i k) ∧ (∀ k, k ∉ ([101] : List Nat) → u.2.2.1 k = c k)) (oC D (va_A (xwT sk a t i q c d) sz) (fun u : MS => xwT sk a t u.1 u.2.1 u.2.2.1 u.2.2.2) (fun _ => [])) (va_A (xwT sk a t i q c d) sz)) 0 0 (va_A (xwT sk a t i q c d) sz) := by
  refine Met.ofW (cc := cX11_who) (maxL := 4) (ret := (some .int)) (by decide +kernel) rfl ?_
  intro p e s m args below meth cd s₁ B hml hv
  obtain ⟨rfl, ⟨hsz, hP, hK, hD0⟩, hN, hZ, hBW⟩ := hv
  have hx := B.exec
  have hb := B.bytes
  have hr := B.returns
  have hts := atoms_spec (ws := wm_X11_who) B.pre
  have hown : s.vm.findClass RX11 = some m.cls := findClass_of_methodNamed B.named
  have hlocks := B.notSynchronized
  subst hsz
  have hD := hD0.self (sz := s.heap.size)
  have hZ := xZ_A hZ hP hBW
  generalize hAe : va_A (xwT sk a t i q c d) s.heap.size = A at hD hZ ⊢
  have hA : ∀ q : Nat, s.heap.size ≤ q → A q := fun q h => by rw [← hAe]; exact Or.inr h
  have hS : va_S A s.heap s.heap [] := va_S.rf
  have hfi : ∀ k, k ∉ ([] : List Nat) → i k = i k := fun _ _ => rfl
  have hfc : ∀ k, k ∉ ([] : List Nat) → c k = c k := fun _ _ => rfl
  have hl := lv_entry ([.ref (a 100), .int w, .int n1]) (n := 4) (Nat.le_of_ble_eq_true rfl)
  rw [lg_entry_eq]
  generalize (lg_sl ([.ref (a 100), .int w, .int n1]) ++ List.replicate (4 - (lg_sl ([.ref (a 100), .int w, .int n1])).length) Slot.unset).toArray = ls at hl ⊢
  have hl : lv_has ls 4 [(0, .ref (a 100)), (1, .int w), (2, .int n1)] := hl
  refine lv_iload_n hx hb dX11_who_0 rfl (lv_at hl 1 rfl) ?_
  refine lv_aload_n hx hb dX11_who_1 rfl (lv_at hl 0 rfl) ?_
  refine xgT_X_casts hx hb hts (fun _ h => List.mem_cons_of_mem _ (List.mem_append_left _ (List.mem_append_right _ h))) hown hK hP (hts (.fieldLink RX11 60 "TalePlay" "casts" "LTalePlay$Casts;") (List.mem_cons_of_mem _ (List.mem_append_left _ (List.mem_append_left _ (List.mem_of_getElem? (i := 0) rfl))))) dX11_who_2 ?_
  refine xgT_C_made (v := (i 165)) rfl hx hb hts (fun _ h => List.mem_cons_of_mem _ (List.mem_append_right _ h)) hown hK hP (hts (.fieldLink RX11 334 "TalePlay$Casts" "made" "I") (List.mem_cons_of_mem _ (List.mem_append_left _ (List.mem_append_left _ (List.mem_of_getElem? (i := 1) rfl))))) dX11_who_5 ?_
  have rb165_i : 0 ≤ (i 165).toInt ∧ (i 165).toInt ≤ 10 := hI.1 165
  have hPc := hP.sub (ws' := []) [] rfl
  have hKc := hK.sub (tys' := []) [] rfl
  refine ro_calli (va_runS (As := [.int w, .int (i 165)]) (rest := []) ⟨hx, hb, hml, hown, hts⟩ (c_X11_isBelow l D s.heap.size w (i 165) w.toInt ((i 165).toInt) rfl rfl) (va_cwS 2 hts gm_X11_who_X11_isBelow_91 rfl rfl rfl (by decide +kernel) ⟨Nat.le_of_ble_eq_true rfl, Nat.le_of_ble_eq_true rfl⟩) (pA_S hKc hPc) rfl rfl hl.1 rfl (lv_room (Nat.le_of_ble_eq_true rfl)) dX11_who_8 ⟨Nat.le_of_ble_eq_true rfl, Nat.le_of_ble_eq_true rfl⟩) hS hA hP (fun r2 u2 H locs hw2 hP hS => ?_)
  have hw2 : r2 = if (0 ≤ w.toInt ∧ w.toInt < ((i 165).toInt)) then 1 else 0 := hw2
  refine lv_if_ne (tgt := 16) hx hb dX11_who_11 (by decide +kernel) (fun c3 => ?_) (fun c3 => ?_)
  · have f3 := fl_t hw2 c3
    refine lv_iload_n hx hb dX11_who_16 rfl (lv_at hl 2 rfl) ?_
    refine lv_aload_n hx hb dX11_who_17 rfl (lv_at hl 0 rfl) ?_
    refine xgT_X_casts hx hb hts (fun _ h => List.mem_cons_of_mem _ (List.mem_append_left _ (List.mem_append_right _ h))) hown hK hP (hts (.fieldLink RX11 60 "TalePlay" "casts" "LTalePlay$Casts;") (List.mem_cons_of_mem _ (List.mem_append_left _ (List.mem_append_left _ (List.mem_of_getElem? (i := 0) rfl))))) dX11_who_18 ?_
    refine xgT_C_lengths hx hb hts (fun _ h => List.mem_cons_of_mem _ (List.mem_append_right _ h)) hown hK hP (hts (.fieldLink RX11 340 "TalePlay$Casts" "lengths" "[I") (List.mem_cons_of_mem _ (List.mem_append_left _ (List.mem_append_left _ (List.mem_of_getElem? (i := 6) rfl))))) dX11_who_21 ?_
    refine lv_iload_n hx hb dX11_who_24 rfl (lv_at hl 1 rfl) ?_
    refine xlT_163 hx hb hK hP (vp_in_iff.mpr (by have h9 : w.toInt = w.toInt := rfl; omega)) dX11_who_25 (fun x4 ex4 => ?_)
    have rx4 : 0 ≤ x4.toInt ∧ x4.toInt ≤ 12 := by rw [ex4]; exact hI.2 163 _
    have hPc := hP.sub (ws' := []) [] rfl
    have hKc := hK.sub (tys' := []) [] rfl
    refine ro_calli (va_runS (As := [.int n1, .int x4]) (rest := []) ⟨hx, hb, hml, hown, hts⟩ (c_X11_isBelow l D H.size n1 x4 n1.toInt x4.toInt rfl rfl) (va_cwS 2 hts gm_X11_who_X11_isBelow_91 rfl rfl rfl (by decide +kernel) ⟨Nat.le_of_ble_eq_true rfl, Nat.le_of_ble_eq_true rfl⟩) (pA_S hKc hPc) rfl rfl hl.1 rfl (lv_room (Nat.le_of_ble_eq_true rfl)) dX11_who_26 ⟨Nat.le_of_ble_eq_true rfl, Nat.le_of_ble_eq_true rfl⟩) hS hA hP (fun r6 u6 H locs hw6 hP hS => ?_)
    have hw6 : r6 = if (0 ≤ n1.toInt ∧ n1.toInt < x4.toInt) then 1 else 0 := hw6
    refine lv_if_ne (tgt := 38) hx hb dX11_who_29 (by decide +kernel) (fun c7 => ?_) (fun c7 => ?_)
    · have f7 := fl_t hw6 c7
      refine lv_aload_n hx hb dX11_who_38 rfl (lv_at hl 0 rfl) ?_
      refine xgT_X_casts hx hb hts (fun _ h => List.mem_cons_of_mem _ (List.mem_append_left _ (List.mem_append_right _ h))) hown hK hP (hts (.fieldLink RX11 60 "TalePlay" "casts" "LTalePlay$Casts;") (List.mem_cons_of_mem _ (List.mem_append_left _ (List.mem_append_left _ (List.mem_of_getElem? (i := 0) rfl))))) dX11_who_39 ?_
      refine xgT_C_roles hx hb hts (fun _ h => List.mem_cons_of_mem _ (List.mem_append_right _ h)) hown hK hP (hts (.fieldLink RX11 347 "TalePlay$Casts" "roles" "[I") (List.mem_cons_of_mem _ (List.mem_append_left _ (List.mem_append_left _ (List.mem_of_getElem? (i := 7) rfl))))) dX11_who_42 ?_
      refine lv_iload_n hx hb dX11_who_45 rfl (lv_at hl 1 rfl) ?_
      refine lv_bipush (v := 12) hx hb dX11_who_46 (by decide +kernel) ?_
      refine lv_imul hx hb dX11_who_48 ?_
      refine lv_topi (fun x8 ex8 => ?_)
      have tx8 := ti_mul (a := w.toInt) (b := 12) ex8 rfl (by decide +kernel) (by omega) (by omega)
      refine lv_iload_n hx hb dX11_who_49 rfl (lv_at hl 2 rfl) ?_
      refine lv_iadd hx hb dX11_who_50 ?_
      refine lv_topi (fun x9 ex9 => ?_)
      have tx9 := ti_add (a := (w.toInt * 12)) (b := n1.toInt) ex9 tx8 rfl (by omega) (by omega)
      refine xlT_164 hx hb hK hP (vp_in_iff.mpr (by have h9 : x9.toInt = ((w.toInt * 12) + n1.toInt) := tx9; omega)) dX11_who_51 (fun x10 ex10 => ?_)
      have rx10 : x10.toInt = -9 ∨ (0 ≤ x10.toInt ∧ x10.toInt ≤ 29) := by rw [ex10]; exact hI.2 164 _
      refine lv_istore_n (lv' := [(3, .int x10), (0, .ref (a 100)), (1, .int w), (2, .int n1)]) hx hb dX11_who_52 rfl hl (by decide +kernel) rfl (fun ls hl => ?_)
      refine lv_iload_n hx hb dX11_who_53 rfl (lv_at hl 0 rfl) ?_
      refine lv_bipush (v := (-9)) hx hb dX11_who_54 (by decide +kernel) ?_
      refine lv_icmp_ne (tgt := 67) hx hb dX11_who_56 (by decide +kernel) (fun c11 => ?_) (fun c11 => ?_)
      · have f11 := mt (ti_eq (a := x10.toInt) (b := (-9)) rfl (by decide +kernel)).mpr c11
        refine lv_iload_n hx hb dX11_who_67 rfl (lv_at hl 0 rfl) ?_
        exact rw_iret (i, q, c, d) hx hb hr hlocks hS (hK.sub (tys' := []) [] rfl) hP hD dX11_who_68 ⟨trivial, hI, fr_w hfi (by decide +kernel), fr_w hfc (by decide +kernel)⟩
      · have f11 := (ti_eq (a := x10.toInt) (b := (-9)) rfl (by decide +kernel)).mp c11
        refine lv_aload_n hx hb dX11_who_59 rfl (lv_at hl 1 rfl) ?_
        refine lv_iconst (v := 1) hx hb dX11_who_60 (by decide +kernel) ?_
        refine al_calli (va_runV (As := [.int 1]) (rest := []) ⟨hx, hb, hml, hown, hts⟩ (x_X11_answerFinding l D H.size sk a t i q c d 1 hI (show 1 ≤ 1 ∧ 1 ≤ 6 from by decide +kernel)) (cwV 1 hts gm_X11_who_X11_answerFinding_128 rfl rfl rfl (by decide +kernel) ⟨Nat.le_of_ble_eq_true rfl, Nat.le_of_ble_eq_true rfl⟩) (yB_V hN (xZ_k hZ hS hA) (xZ_n hZ hD) hK hP hD (ci := 11) (q0 := 0) rfl rfl) rfl rfl hl.1 rfl (lv_room (Nat.le_of_ble_eq_true rfl)) dX11_who_61 ⟨Nat.le_of_ble_eq_true rfl, Nat.le_of_ble_eq_true rfl⟩) hS hA hP hD (fun r12 u12 H locs hw12 hP hD hS => ?_)
        obtain ⟨i12, q12, c12, d12⟩ := u12
        have hw12 : r12 = (-3) ∧ xInv i12 c12 ∧ (∀ k, k ∉ ([102] : List Nat) → i12 k = i k) ∧ (∀ k, k ∉ ([101] : List Nat) → c12 k = c k) := hw12
        obtain ⟨hw12, hI, hei12, hec12⟩ := hw12
        have hfi : ∀ k, k ∉ ([102] : List Nat) → i12 k = i k := fr_z hfi hei12 (by decide +kernel) (by decide +kernel)
        have hfc : ∀ k, k ∉ ([101] : List Nat) → c12 k = c k := fr_z hfc hec12 (by decide +kernel) (by decide +kernel)
        have hw12 : r12 = (-3) := hw12
        subst hw12
        refine lv_goto (tgt := 68) hx hb dX11_who_64 (by decide +kernel) ?_
        exact rw_iret (i12, q12, c12, d12) hx hb hr hlocks hS (hK.sub (tys' := []) [] rfl) hP hD dX11_who_68 ⟨trivial, hI, fr_w hfi (by decide +kernel), fr_w hfc (by decide +kernel)⟩
    · have f7 := fl_f hw6 c7
      refine lv_aload_n hx hb dX11_who_32 rfl (lv_at hl 0 rfl) ?_
      refine lv_iconst (v := 2) hx hb dX11_who_33 (by decide +kernel) ?_
      refine al_calli (va_runV (As := [.int 2]) (rest := []) ⟨hx, hb, hml, hown, hts⟩ (x_X11_answerFinding l D H.size sk a t i q c d 2 hI (show 1 ≤ 2 ∧ 2 ≤ 6 from by decide +kernel)) (cwV 1 hts gm_X11_who_X11_answerFinding_128 rfl rfl rfl (by decide +kernel) ⟨Nat.le_of_ble_eq_true rfl, Nat.le_of_ble_eq_true rfl⟩) (yB_V hN (xZ_k hZ hS hA) (xZ_n hZ hD) hK hP hD (ci := 11) (q0 := 0) rfl rfl) rfl rfl hl.1 rfl (lv_room (Nat.le_of_ble_eq_true rfl)) dX11_who_34 ⟨Nat.le_of_ble_eq_true rfl, Nat.le_of_ble_eq_true rfl⟩) hS hA hP hD (fun r13 u13 H locs hw13 hP hD hS => ?_)
      obtain ⟨i13, q13, c13, d13⟩ := u13
      have hw13 : r13 = (-3) ∧ xInv i13 c13 ∧ (∀ k, k ∉ ([102] : List Nat) → i13 k = i k) ∧ (∀ k, k ∉ ([101] : List Nat) → c13 k = c k) := hw13
      obtain ⟨hw13, hI, hei13, hec13⟩ := hw13
      have hfi : ∀ k, k ∉ ([102] : List Nat) → i13 k = i k := fr_z hfi hei13 (by decide +kernel) (by decide +kernel)
      have hfc : ∀ k, k ∉ ([101] : List Nat) → c13 k = c k := fr_z hfc hec13 (by decide +kernel) (by decide +kernel)
      have hw13 : r13 = (-3) := hw13
      subst hw13
      exact rw_iret (i13, q13, c13, d13) hx hb hr hlocks hS (hK.sub (tys' := []) [] rfl) hP hD dX11_who_37 ⟨trivial, hI, fr_w hfi (by decide +kernel), fr_w hfc (by decide +kernel)⟩
  · have f3 := fl_f hw2 c3
    refine lv_iconst (v := (-1)) hx hb dX11_who_14 (by decide +kernel) ?_
    exact rw_iret (i, q, c, d) hx hb hr hlocks hS (hK.sub (tys' := []) [] rfl) hP hD dX11_who_15 ⟨trivial, hI, fr_w hfi (by decide +kernel), fr_w hfc (by decide +kernel)⟩

def wm_X11_finding : List Cond := .code yX11_finding cX11_finding 1 (some .int) :: (([.fieldLink RX11 72 "TalePlay" "latestFinding" "I"] : List Cond) ++ wsX110)
set_option maxHeartbeats 4000000 in
set_option maxRecDepth 100000 in
theorem x_X11_finding (l : Launch) (D : va_G) (sz : Nat) (sk : Value) (a : Nat → Nat) (t : Nat → ClassId) (i : Nat → Int32) (q : Int64) (c : Nat → Nat → Int32) (d : Nat → Nat → Int64) (hI : xInv i c) : Met l yX11_finding wm_X11_finding ({ frames := 0, cells := 0, slots := 0, locals := 0 }) (va_Pc [.ref (a 100)] (yA (a 186) D sz (xwT sk a t i q c d) (xtT t))) (va_Qi (fun (r : Int32) (_ : Unit) => True) oA (ro sz)) 0 0 (ro sz) := by
  refine Met.ofW (cc := cX11_finding) (maxL := 1) (ret := (some .int)) (by decide +kernel) rfl ?_
  intro p e s m args below meth cd s₁ B hml hv
  obtain ⟨rfl, ⟨hsz, hP, hK⟩, hN, hZ⟩ := hv
  have hx := B.exec
  have hb := B.bytes
  have hr := B.returns
  have hts := atoms_spec (ws := wm_X11_finding) B.pre
  have hown : s.vm.findClass RX11 = some m.cls := findClass_of_methodNamed B.named
  have hlocks := B.notSynchronized
  subst hsz
  have hA : ∀ q : Nat, s.heap.size ≤ q → ro s.heap.size q := fun _ h => h
  have hS : va_S (ro s.heap.size) s.heap s.heap [] := va_S.rf
  have hl := lv_entry ([.ref (a 100)]) (n := 1) (Nat.le_of_ble_eq_true rfl)
  rw [lg_entry_eq]
  generalize (lg_sl ([.ref (a 100)]) ++ List.replicate (1 - (lg_sl ([.ref (a 100)])).length) Slot.unset).toArray = ls at hl ⊢
  have hl : lv_has ls 1 [(0, .ref (a 100))] := hl
  refine lv_aload_n hx hb dX11_finding_0 rfl (lv_at hl 0 rfl) ?_
  refine xgT_X_latestFinding (v := (i 102)) rfl hx hb hts (fun _ h => List.mem_cons_of_mem _ (List.mem_append_right _ h)) hown hK hP (hts (.fieldLink RX11 72 "TalePlay" "latestFinding" "I") (List.mem_cons_of_mem _ (List.mem_append_left _ (List.mem_of_getElem? (i := 0) rfl)))) dX11_finding_1 ?_
  have rb102_i : 0 ≤ (i 102).toInt ∧ (i 102).toInt ≤ 6 := hI.1 102
  exact ro_iret hx hb hr hlocks hS dX11_finding_4 trivial

def wm_X11_findings : List Cond := .code yX11_findings cX11_findings 2 (some .int) :: (([.fieldLink RX11 68 "TalePlay" "findingCounts" "[I"] : List Cond) ++ wsX110)
set_option maxHeartbeats 4000000 in
set_option maxRecDepth 100000 in
theorem x_X11_findings (l : Launch) (D : va_G) (sz : Nat) (sk : Value) (a : Nat → Nat) (t : Nat → ClassId) (i : Nat → Int32) (q : Int64) (c : Nat → Nat → Int32) (d : Nat → Nat → Int64) (f : Int32) (hI : xInv i c) : Met l yX11_findings wm_X11_findings ({ frames := 0, cells := 0, slots := 0, locals := 0 }) (va_Pc [.ref (a 100), .int f] (yA (a 186) D sz (xwT sk a t i q c d) (xtT t))) (va_Qi (fun (r : Int32) (_ : Unit) => True) oA (ro sz)) 0 0 (ro sz) := by
  refine Met.ofW (cc := cX11_findings) (maxL := 2) (ret := (some .int)) (by decide +kernel) rfl ?_
  intro p e s m args below meth cd s₁ B hml hv
  obtain ⟨rfl, ⟨hsz, hP, hK⟩, hN, hZ⟩ := hv
  have hx := B.exec
  have hb := B.bytes
  have hr := B.returns
  have hts := atoms_spec (ws := wm_X11_findings) B.pre
  have hown : s.vm.findClass RX11 = some m.cls := findClass_of_methodNamed B.named
  have hlocks := B.notSynchronized
  subst hsz
  have hA : ∀ q : Nat, s.heap.size ≤ q → ro s.heap.size q := fun _ h => h
  have hS : va_S (ro s.heap.size) s.heap s.heap [] := va_S.rf
  have hl := lv_entry ([.ref (a 100), .int f]) (n := 2) (Nat.le_of_ble_eq_true rfl)
  rw [lg_entry_eq]
  generalize (lg_sl ([.ref (a 100), .int f]) ++ List.replicate (2 - (lg_sl ([.ref (a 100), .int f])).length) Slot.unset).toArray = ls at hl ⊢
  have hl : lv_has ls 2 [(0, .ref (a 100)), (1, .int f)] := hl
  refine lv_iload_n hx hb dX11_findings_0 rfl (lv_at hl 1 rfl) ?_
  refine lv_iconst (v := 1) hx hb dX11_findings_1 (by decide +kernel) ?_
  refine lv_icmp_lt (tgt := 11) hx hb dX11_findings_2 (by decide +kernel) (fun c1 => ?_) (fun c1 => ?_)
  · have f1 := (ti_lt (a := f.toInt) (b := 1) rfl (by decide +kernel)).mp c1
    refine lv_iconst (v := (-1)) hx hb dX11_findings_11 (by decide +kernel) ?_
    refine lv_goto (tgt := 21) hx hb dX11_findings_12 (by decide +kernel) ?_
    exact ro_iret hx hb hr hlocks hS dX11_findings_21 trivial
  · have f1 := mt (ti_lt (a := f.toInt) (b := 1) rfl (by decide +kernel)).mpr c1
    refine lv_iload_n hx hb dX11_findings_5 rfl (lv_at hl 1 rfl) ?_
    refine lv_bipush (v := 6) hx hb dX11_findings_6 (by decide +kernel) ?_
    refine lv_icmp_le (tgt := 15) hx hb dX11_findings_8 (by decide +kernel) (fun c2 => ?_) (fun c2 => ?_)
    · have f2 := (ti_le (a := f.toInt) (b := 6) rfl (by decide +kernel)).mp c2
      refine lv_aload_n hx hb dX11_findings_15 rfl (lv_at hl 0 rfl) ?_
      refine xgT_X_findingCounts hx hb hts (fun _ h => List.mem_cons_of_mem _ (List.mem_append_right _ h)) hown hK hP (hts (.fieldLink RX11 68 "TalePlay" "findingCounts" "[I") (List.mem_cons_of_mem _ (List.mem_append_left _ (List.mem_of_getElem? (i := 0) rfl)))) dX11_findings_16 ?_
      refine lv_iload_n hx hb dX11_findings_19 rfl (lv_at hl 1 rfl) ?_
      refine xlT_101 hx hb hK hP (vp_in_iff.mpr (by have h9 : f.toInt = f.toInt := rfl; omega)) dX11_findings_20 (fun x3 ex3 => ?_)
      exact ro_iret hx hb hr hlocks hS dX11_findings_21 trivial
    · have f2 := mt (ti_le (a := f.toInt) (b := 6) rfl (by decide +kernel)).mpr c2
      refine lv_iconst (v := (-1)) hx hb dX11_findings_11 (by decide +kernel) ?_
      refine lv_goto (tgt := 21) hx hb dX11_findings_12 (by decide +kernel) ?_
      exact ro_iret hx hb hr hlocks hS dX11_findings_21 trivial

def wm_X11_turn : List Cond := .code yX11_turn cX11_turn 3 (some .int) :: (([.methodLink RX11 91 yX11_isBelow, .static yX11_isBelow, .initialized RX11, .code yX11_isBelow cX11_isBelow 2 (some .boolean), .fieldLink RX11 46 "TalePlay" "tale" "LTalePlay$Tale;", .fieldLink RX11 257 "TalePlay$Tale" "there" "Z", .fieldLink RX11 254 "TalePlay$Tale" "turns" "I", .fieldLink RX11 268 "TalePlay$Tale" "deeds" "[I", .methodLink RX11 271 yX11_deedPart, .static yX11_deedPart, .code yX11_deedPart cX11_deedPart 2 (some .int)] : List Cond) ++ wsX110 ++ wsX90)
set_option maxRecDepth 20000 in
theorem gm_X11_turn_X11_isBelow_91 : GoodIn wm_X11_turn (va_wsS RX11 91 yX11_isBelow wm_X11_isBelow) := goodIn_w (List.forall_mem_append.mpr ⟨List.forall_mem_cons.mpr ⟨List.mem_cons_of_mem _ (List.mem_append_left _ (List.mem_append_left _ (List.mem_of_getElem? (i := 0) rfl))), List.forall_mem_cons.mpr ⟨List.mem_cons_of_mem _ (List.mem_append_left _ (List.mem_append_left _ (List.mem_of_getElem? (i := 1) rfl))), List.forall_mem_cons.mpr ⟨List.mem_cons_of_mem _ (List.mem_append_left _ (List.mem_append_left _ (List.mem_of_getElem? (i := 2) rfl))), (fun _ h => absurd h List.not_mem_nil)⟩⟩⟩, List.forall_mem_cons.mpr ⟨List.mem_cons_of_mem _ (List.mem_append_left _ (List.mem_append_left _ (List.mem_of_getElem? (i := 3) rfl))), (fun _ h => absurd h List.not_mem_nil)⟩⟩) (by decide +kernel)
set_option maxRecDepth 20000 in
theorem gm_X11_turn_X11_deedPart_271 : GoodIn wm_X11_turn (va_wsS RX11 271 yX11_deedPart wm_X11_deedPart) := goodIn_w (List.forall_mem_append.mpr ⟨List.forall_mem_cons.mpr ⟨List.mem_cons_of_mem _ (List.mem_append_left _ (List.mem_append_left _ (List.mem_of_getElem? (i := 8) rfl))), List.forall_mem_cons.mpr ⟨List.mem_cons_of_mem _ (List.mem_append_left _ (List.mem_append_left _ (List.mem_of_getElem? (i := 9) rfl))), List.forall_mem_cons.mpr ⟨List.mem_cons_of_mem _ (List.mem_append_left _ (List.mem_append_left _ (List.mem_of_getElem? (i := 2) rfl))), (fun _ h => absurd h List.not_mem_nil)⟩⟩⟩, List.forall_mem_cons.mpr ⟨List.mem_cons_of_mem _ (List.mem_append_left _ (List.mem_append_left _ (List.mem_of_getElem? (i := 10) rfl))), (fun _ h => absurd h List.not_mem_nil)⟩⟩) (by decide +kernel)
set_option maxHeartbeats 4000000 in
set_option maxRecDepth 100000 in
theorem x_X11_turn (l : Launch) (D : va_G) (sz : Nat) (sk : Value) (a : Nat → Nat) (t : Nat → ClassId) (i : Nat → Int32) (q : Int64) (c : Nat → Nat → Int32) (d : Nat → Nat → Int64) (w : Int32) (w1 : Int32) (hI : xInv i c) : Met l yX11_turn wm_X11_turn ({ frames := 1, cells := 0, slots := 0, locals := 21 }) (va_Pc [.ref (a 100), .int w, .int w1] (yA (a 186) D sz (xwT sk a t i q c d) (xtT t))) (va_Qi (fun (r : Int32) (_ : Unit) => True) oA (ro sz)) 0 0 (ro sz) := by
  refine Met.ofW (cc := cX11_turn) (maxL := 3) (ret := (some .int)) (by decide +kernel) rfl ?_
  intro p e s m args below meth cd s₁ B hml hv
  obtain ⟨rfl, ⟨hsz, hP, hK⟩, hN, hZ⟩ := hv
  have hx := B.exec
  have hb := B.bytes
  have hr := B.returns
  have hts := atoms_spec (ws := wm_X11_turn) B.pre
  have hown : s.vm.findClass RX11 = some m.cls := findClass_of_methodNamed B.named
  have hlocks := B.notSynchronized
  subst hsz
  have hA : ∀ q : Nat, s.heap.size ≤ q → ro s.heap.size q := fun _ h => h
  have hS : va_S (ro s.heap.size) s.heap s.heap [] := va_S.rf
  have hl := lv_entry ([.ref (a 100), .int w, .int w1]) (n := 3) (Nat.le_of_ble_eq_true rfl)
  rw [lg_entry_eq]
  generalize (lg_sl ([.ref (a 100), .int w, .int w1]) ++ List.replicate (3 - (lg_sl ([.ref (a 100), .int w, .int w1])).length) Slot.unset).toArray = ls at hl ⊢
  have hl : lv_has ls 3 [(0, .ref (a 100)), (1, .int w), (2, .int w1)] := hl
  refine lv_iload_n hx hb dX11_turn_0 rfl (lv_at hl 2 rfl) ?_
  refine lv_iconst (v := 3) hx hb dX11_turn_1 (by decide +kernel) ?_
  have hPc := hP.sub (ws' := []) [] rfl
  have hKc := hK.sub (tys' := []) [] rfl
  refine ro_calli (va_runS (As := [.int w1, .int 3]) (rest := []) ⟨hx, hb, hml, hown, hts⟩ (c_X11_isBelow l D s.heap.size w1 3 w1.toInt 3 rfl (by decide +kernel)) (va_cwS 2 hts gm_X11_turn_X11_isBelow_91 rfl rfl rfl (by decide +kernel) ⟨Nat.le_of_ble_eq_true rfl, Nat.le_of_ble_eq_true rfl⟩) (pA_S hKc hPc) rfl rfl hl.1 rfl (lv_room (Nat.le_of_ble_eq_true rfl)) dX11_turn_2 ⟨Nat.le_of_ble_eq_true rfl, Nat.le_of_ble_eq_true rfl⟩) hS hA hP (fun r2 u2 H locs hw2 hP hS => ?_)
  have hw2 : r2 = if (0 ≤ w1.toInt ∧ w1.toInt < 3) then 1 else 0 := hw2
  refine lv_if_eq (tgt := 12) hx hb dX11_turn_5 (by decide +kernel) (fun c3 => ?_) (fun c3 => ?_)
  · have f3 := fl_f hw2 c3
    refine lv_iconst (v := (-1)) hx hb dX11_turn_12 (by decide +kernel) ?_
    exact ro_iret hx hb hr hlocks hS dX11_turn_13 trivial
  · have f3 := fl_t hw2 c3
    refine lv_iload_n hx hb dX11_turn_8 rfl (lv_at hl 1 rfl) ?_
    refine lv_if_ge (tgt := 14) hx hb dX11_turn_9 (by decide +kernel) (fun c4 => ?_) (fun c4 => ?_)
    · have f4 := (ti_le (a := 0) (b := w.toInt) (by decide +kernel) rfl).mp c4
      refine lv_aload_n hx hb dX11_turn_14 rfl (lv_at hl 0 rfl) ?_
      refine xgT_X_tale hx hb hts (fun _ h => List.mem_cons_of_mem _ (List.mem_append_left _ (List.mem_append_right _ h))) hown hK hP (hts (.fieldLink RX11 46 "TalePlay" "tale" "LTalePlay$Tale;") (List.mem_cons_of_mem _ (List.mem_append_left _ (List.mem_append_left _ (List.mem_of_getElem? (i := 4) rfl))))) dX11_turn_15 ?_
      refine xgT_T_there (v := (i 146)) rfl hx hb hts (fun _ h => List.mem_cons_of_mem _ (List.mem_append_right _ h)) hown hK hP (hts (.fieldLink RX11 257 "TalePlay$Tale" "there" "Z") (List.mem_cons_of_mem _ (List.mem_append_left _ (List.mem_append_left _ (List.mem_of_getElem? (i := 5) rfl))))) dX11_turn_18 ?_
      have rb146_i : 0 ≤ (i 146).toInt ∧ (i 146).toInt ≤ 1 := hI.1 146
      refine lv_if_ne (tgt := 27) hx hb dX11_turn_21 (by decide +kernel) (fun c5 => ?_) (fun c5 => ?_)
      · have f5 := mt (ti_eq (a := (i 146).toInt) (b := 0) rfl (by decide +kernel)).mpr c5
        refine lv_iload_n hx hb dX11_turn_27 rfl (lv_at hl 1 rfl) ?_
        refine lv_aload_n hx hb dX11_turn_28 rfl (lv_at hl 0 rfl) ?_
        refine xgT_X_tale hx hb hts (fun _ h => List.mem_cons_of_mem _ (List.mem_append_left _ (List.mem_append_right _ h))) hown hK hP (hts (.fieldLink RX11 46 "TalePlay" "tale" "LTalePlay$Tale;") (List.mem_cons_of_mem _ (List.mem_append_left _ (List.mem_append_left _ (List.mem_of_getElem? (i := 4) rfl))))) dX11_turn_29 ?_
        refine xgT_T_turns (v := (i 148)) rfl hx hb hts (fun _ h => List.mem_cons_of_mem _ (List.mem_append_right _ h)) hown hK hP (hts (.fieldLink RX11 254 "TalePlay$Tale" "turns" "I") (List.mem_cons_of_mem _ (List.mem_append_left _ (List.mem_append_left _ (List.mem_of_getElem? (i := 6) rfl))))) dX11_turn_32 ?_
        have rb148_i : 0 ≤ (i 148).toInt ∧ (i 148).toInt ≤ 100 := hI.1 148
        refine lv_icmp_lt (tgt := 40) hx hb dX11_turn_35 (by decide +kernel) (fun c6 => ?_) (fun c6 => ?_)
        · have f6 := (ti_lt (a := w.toInt) (b := (i 148).toInt) rfl rfl).mp c6
          refine lv_aload_n hx hb dX11_turn_40 rfl (lv_at hl 0 rfl) ?_
          refine xgT_X_tale hx hb hts (fun _ h => List.mem_cons_of_mem _ (List.mem_append_left _ (List.mem_append_right _ h))) hown hK hP (hts (.fieldLink RX11 46 "TalePlay" "tale" "LTalePlay$Tale;") (List.mem_cons_of_mem _ (List.mem_append_left _ (List.mem_append_left _ (List.mem_of_getElem? (i := 4) rfl))))) dX11_turn_41 ?_
          refine xgT_T_deeds hx hb hts (fun _ h => List.mem_cons_of_mem _ (List.mem_append_right _ h)) hown hK hP (hts (.fieldLink RX11 268 "TalePlay$Tale" "deeds" "[I") (List.mem_cons_of_mem _ (List.mem_append_left _ (List.mem_append_left _ (List.mem_of_getElem? (i := 7) rfl))))) dX11_turn_44 ?_
          refine lv_iload_n hx hb dX11_turn_47 rfl (lv_at hl 1 rfl) ?_
          refine xlT_143 hx hb hK hP (vp_in_iff.mpr (by have h9 : w.toInt = w.toInt := rfl; omega)) dX11_turn_48 (fun x7 ex7 => ?_)
          refine lv_iload_n hx hb dX11_turn_49 rfl (lv_at hl 2 rfl) ?_
          have hPc := hP.sub (ws' := []) [] rfl
          have hKc := hK.sub (tys' := []) [] rfl
          refine ro_calli (va_runS (As := [.int x7, .int w1]) (rest := []) ⟨hx, hb, hml, hown, hts⟩ (c_X11_deedPart l D H.size x7 w1) (va_cwS 2 hts gm_X11_turn_X11_deedPart_271 rfl rfl rfl (by decide +kernel) ⟨Nat.le_of_ble_eq_true rfl, Nat.le_of_ble_eq_true rfl⟩) (pA_S hKc hPc) rfl rfl hl.1 rfl (lv_room (Nat.le_of_ble_eq_true rfl)) dX11_turn_50 ⟨Nat.le_of_ble_eq_true rfl, Nat.le_of_ble_eq_true rfl⟩) hS hA hP (fun r9 u9 H locs hw9 hP hS => ?_)
          exact ro_iret hx hb hr hlocks hS dX11_turn_53 trivial
        · have f6 := mt (ti_lt (a := w.toInt) (b := (i 148).toInt) rfl rfl).mpr c6
          refine lv_iconst (v := (-1)) hx hb dX11_turn_38 (by decide +kernel) ?_
          exact ro_iret hx hb hr hlocks hS dX11_turn_39 trivial
      · have f5 := (ti_eq (a := (i 146).toInt) (b := 0) rfl (by decide +kernel)).mp c5
        refine lv_bipush (v := (-5)) hx hb dX11_turn_24 (by decide +kernel) ?_
        exact ro_iret hx hb hr hlocks hS dX11_turn_26 trivial
    · have f4 := mt (ti_le (a := 0) (b := w.toInt) (by decide +kernel) rfl).mpr c4
      refine lv_iconst (v := (-1)) hx hb dX11_turn_12 (by decide +kernel) ?_
      exact ro_iret hx hb hr hlocks hS dX11_turn_13 trivial

def wm_X11_light : List Cond := .code yX11_light cX11_light 1 (some .int) :: (([.fieldLink RX11 46 "TalePlay" "tale" "LTalePlay$Tale;", .fieldLink RX11 257 "TalePlay$Tale" "there" "Z", .fieldLink RX11 274 "TalePlay$Tale" "sight" "LTalePlay$Sight;", .fieldLink RX11 278 "TalePlay$Sight" "bright" "Z", .methodLink RX11 118 yX11_oneIf, .static yX11_oneIf, .initialized RX11, .code yX11_oneIf cX11_oneIf 1 (some .int)] : List Cond) ++ wsX110 ++ wsX90 ++ wsX80)
set_option maxRecDepth 20000 in
theorem gm_X11_light_X11_oneIf_118 : GoodIn wm_X11_light (va_wsS RX11 118 yX11_oneIf wm_X11_oneIf) := goodIn_w (List.forall_mem_append.mpr ⟨List.forall_mem_cons.mpr ⟨List.mem_cons_of_mem _ (List.mem_append_left _ (List.mem_append_left _ (List.mem_append_left _ (List.mem_of_getElem? (i := 4) rfl)))), List.forall_mem_cons.mpr ⟨List.mem_cons_of_mem _ (List.mem_append_left _ (List.mem_append_left _ (List.mem_append_left _ (List.mem_of_getElem? (i := 5) rfl)))), List.forall_mem_cons.mpr ⟨List.mem_cons_of_mem _ (List.mem_append_left _ (List.mem_append_left _ (List.mem_append_left _ (List.mem_of_getElem? (i := 6) rfl)))), (fun _ h => absurd h List.not_mem_nil)⟩⟩⟩, List.forall_mem_cons.mpr ⟨List.mem_cons_of_mem _ (List.mem_append_left _ (List.mem_append_left _ (List.mem_append_left _ (List.mem_of_getElem? (i := 7) rfl)))), (fun _ h => absurd h List.not_mem_nil)⟩⟩) (by decide +kernel)
set_option maxHeartbeats 4000000 in
set_option maxRecDepth 100000 in
theorem x_X11_light (l : Launch) (D : va_G) (sz : Nat) (sk : Value) (a : Nat → Nat) (t : Nat → ClassId) (i : Nat → Int32) (q : Int64) (c : Nat → Nat → Int32) (d : Nat → Nat → Int64) (hI : xInv i c) : Met l yX11_light wm_X11_light ({ frames := 1, cells := 0, slots := 0, locals := 20 }) (va_Pc [.ref (a 100)] (yA (a 186) D sz (xwT sk a t i q c d) (xtT t))) (va_Qi (fun (r : Int32) (_ : Unit) => True) oA (ro sz)) 0 0 (ro sz) := by
  refine Met.ofW (cc := cX11_light) (maxL := 1) (ret := (some .int)) (by decide +kernel) rfl ?_
  intro p e s m args below meth cd s₁ B hml hv
  obtain ⟨rfl, ⟨hsz, hP, hK⟩, hN, hZ⟩ := hv
  have hx := B.exec
  have hb := B.bytes
  have hr := B.returns
  have hts := atoms_spec (ws := wm_X11_light) B.pre
  have hown : s.vm.findClass RX11 = some m.cls := findClass_of_methodNamed B.named
  have hlocks := B.notSynchronized
  subst hsz
  have hA : ∀ q : Nat, s.heap.size ≤ q → ro s.heap.size q := fun _ h => h
  have hS : va_S (ro s.heap.size) s.heap s.heap [] := va_S.rf
  have hl := lv_entry ([.ref (a 100)]) (n := 1) (Nat.le_of_ble_eq_true rfl)
  rw [lg_entry_eq]
  generalize (lg_sl ([.ref (a 100)]) ++ List.replicate (1 - (lg_sl ([.ref (a 100)])).length) Slot.unset).toArray = ls at hl ⊢
  have hl : lv_has ls 1 [(0, .ref (a 100))] := hl
  refine lv_aload_n hx hb dX11_light_0 rfl (lv_at hl 0 rfl) ?_
  refine xgT_X_tale hx hb hts (fun _ h => List.mem_cons_of_mem _ (List.mem_append_left _ (List.mem_append_left _ (List.mem_append_right _ h)))) hown hK hP (hts (.fieldLink RX11 46 "TalePlay" "tale" "LTalePlay$Tale;") (List.mem_cons_of_mem _ (List.mem_append_left _ (List.mem_append_left _ (List.mem_append_left _ (List.mem_of_getElem? (i := 0) rfl)))))) dX11_light_1 ?_
  refine xgT_T_there (v := (i 146)) rfl hx hb hts (fun _ h => List.mem_cons_of_mem _ (List.mem_append_left _ (List.mem_append_right _ h))) hown hK hP (hts (.fieldLink RX11 257 "TalePlay$Tale" "there" "Z") (List.mem_cons_of_mem _ (List.mem_append_left _ (List.mem_append_left _ (List.mem_append_left _ (List.mem_of_getElem? (i := 1) rfl)))))) dX11_light_4 ?_
  have rb146_i : 0 ≤ (i 146).toInt ∧ (i 146).toInt ≤ 1 := hI.1 146
  refine lv_if_ne (tgt := 13) hx hb dX11_light_7 (by decide +kernel) (fun c1 => ?_) (fun c1 => ?_)
  · have f1 := mt (ti_eq (a := (i 146).toInt) (b := 0) rfl (by decide +kernel)).mpr c1
    refine lv_aload_n hx hb dX11_light_13 rfl (lv_at hl 0 rfl) ?_
    refine xgT_X_tale hx hb hts (fun _ h => List.mem_cons_of_mem _ (List.mem_append_left _ (List.mem_append_left _ (List.mem_append_right _ h)))) hown hK hP (hts (.fieldLink RX11 46 "TalePlay" "tale" "LTalePlay$Tale;") (List.mem_cons_of_mem _ (List.mem_append_left _ (List.mem_append_left _ (List.mem_append_left _ (List.mem_of_getElem? (i := 0) rfl)))))) dX11_light_14 ?_
    refine xgT_T_sight hx hb hts (fun _ h => List.mem_cons_of_mem _ (List.mem_append_left _ (List.mem_append_right _ h))) hown hK hP (hts (.fieldLink RX11 274 "TalePlay$Tale" "sight" "LTalePlay$Sight;") (List.mem_cons_of_mem _ (List.mem_append_left _ (List.mem_append_left _ (List.mem_append_left _ (List.mem_of_getElem? (i := 2) rfl)))))) dX11_light_17 ?_
    refine xgT_TG_bright (v := (i 154)) rfl hx hb hts (fun _ h => List.mem_cons_of_mem _ (List.mem_append_right _ h)) hown hK hP (hts (.fieldLink RX11 278 "TalePlay$Sight" "bright" "Z") (List.mem_cons_of_mem _ (List.mem_append_left _ (List.mem_append_left _ (List.mem_append_left _ (List.mem_of_getElem? (i := 3) rfl)))))) dX11_light_20 ?_
    have rb154_i : 0 ≤ (i 154).toInt ∧ (i 154).toInt ≤ 1 := hI.1 154
    have hPc := hP.sub (ws' := []) [] rfl
    have hKc := hK.sub (tys' := []) [] rfl
    refine ro_calli (va_runS (As := [.int (i 154)]) (rest := []) ⟨hx, hb, hml, hown, hts⟩ (c_X11_oneIf l D s.heap.size (i 154)) (va_cwS 1 hts gm_X11_light_X11_oneIf_118 rfl rfl rfl (by decide +kernel) ⟨Nat.le_of_ble_eq_true rfl, Nat.le_of_ble_eq_true rfl⟩) (pA_S hKc hPc) rfl rfl hl.1 rfl (lv_room (Nat.le_of_ble_eq_true rfl)) dX11_light_23 ⟨Nat.le_of_ble_eq_true rfl, Nat.le_of_ble_eq_true rfl⟩) hS hA hP (fun r3 u3 H locs hw3 hP hS => ?_)
    exact ro_iret hx hb hr hlocks hS dX11_light_26 trivial
  · have f1 := (ti_eq (a := (i 146).toInt) (b := 0) rfl (by decide +kernel)).mp c1
    refine lv_bipush (v := (-5)) hx hb dX11_light_10 (by decide +kernel) ?_
    exact ro_iret hx hb hr hlocks hS dX11_light_12 trivial

