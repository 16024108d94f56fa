def LB (w s1 n1 : Int32) (ob : Int) : Prop := ¬ (0 ≤ w.toInt ∧ w.toInt < ob ∧ 0 ≤ s1.toInt ∧ s1.toInt ≤ 3 ∧ 0 ≤ n1.toInt ∧ n1.toInt ≤ 12)
def LU (a b a2 b2 : Nat → Int32) (w s1 n1 : Int32) (ob : Int) : Prop := (LB w s1 n1 ob ∧ a2 = a ∧ b2 = b) ∨ (¬ LB w s1 n1 ob ∧ a2 = upd a w.toNatClampNeg s1 ∧ b2 = upd b w.toNatClampNeg n1)
def LV (a b c a2 b2 c2 : Nat → Int32) (w s1 n1 : Int32) (ob : Int) : Prop := (LB w s1 n1 ob ∧ a2 = a ∧ b2 = b ∧ c2 = c) ∨ (¬ LB w s1 n1 ob ∧ a2 = upd a w.toNatClampNeg 1 ∧ b2 = upd b w.toNatClampNeg s1 ∧ c2 = upd c w.toNatClampNeg n1)

def StB (k f v : Int32) (kn : Int) : Prop := ¬ (0 ≤ k.toInt ∧ k.toInt < kn) ∨ ¬ (0 ≤ f.toInt ∧ f.toInt ≤ 5) ∨ ¬ (v.toInt = -9 ∨ v.toInt = 0 ∨ v.toInt = 1)
def StU (a b : Nat → Int32) (k f v : Int32) (kn : Int) : Prop := (StB k f v kn ∧ b = a) ∨ (¬ StB k f v kn ∧ b = upd a (k.toInt * 6 + f.toInt).toNat v)
def StR (a : Nat → Int32) (k f v : Int32) (kn : Int) (r : Int32) : Prop := (StB k f v kn ∧ r.toInt = -1) ∨ (¬ StB k f v kn ∧ r = a (k.toInt * 6 + f.toInt).toNat)
theorem cl_t {x : Int32} {a : Int} (e : x.toInt = a) : x.toNatClampNeg = a.toNat := by rw [← e]; rfl

def wm_X10_addKind_e : List Cond := .code yX10_addKind cX10_addKind 2 (some .int) :: (([.fieldLink RX10 9 "TalePlay$World" "parents" "[I", .fieldLink RX10 33 "TalePlay$World" "kinds" "I", .fieldLink RX10 15 "TalePlay$World" "sorts" "[I"] : List Cond) ++ wsX100)
set_option maxHeartbeats 4000000 in
set_option maxRecDepth 100000 in
theorem x_X10_addKind_e (l : Launch) (D : va_G) (sz : Nat) (sk : Value) (a : Nat → Nat) (t : Nat → ClassId) (i : Nat → Int32) (q : Int64) (c : Nat → Nat → Int32) (d : Nat → Nat → Int64) (k1 : Int32) (hI : xInv i c) (hk1 : 0 ≤ k1.toInt ∧ k1.toInt ≤ 23) (hkn : (i 110).toInt ≤ 23) : Met l yX10_addKind wm_X10_addKind_e ({ frames := 0, cells := 0, slots := 0, locals := 0 }) (va_Pc [.ref (a 104), .int k1] (yB (a 186) D sz (xwT sk a t i q c d) (xtT t))) (va_Qi (fun (r : Int32) (u : MS) => (r.toInt = (i 110).toInt) ∧ xInv u.1 u.2.2.1 ∧ (∀ k, k ∉ ([110] : List Nat) → u.1 k = i k) ∧ (∀ k, k ∉ ([105, 106] : List Nat) → u.2.2.1 k = c k) ∧ ((u.1 110).toInt = (i 110).toInt + 1)) (oC D (va_A (xwT sk a t i q c d) sz) (fun u : MS => xwT sk a t u.1 u.2.1 u.2.2.1 u.2.2.2) (fun _ => [])) (va_A (xwT sk a t i q c d) sz)) 0 0 (va_A (xwT sk a t i q c d) sz) := by
  refine Met.ofW (cc := cX10_addKind) (maxL := 2) (ret := (some .int)) (by decide) rfl ?_
  intro p e s m args below meth cd s₁ B hml hv
  obtain ⟨rfl, ⟨hsz, hP, hK, hD0⟩, hN, hZ, hBW⟩ := hv
  have hx := B.exec
  have hb := B.bytes
  have hr := B.returns
  have hts := atoms_spec (ws := wm_X10_addKind_e) B.pre
  have hown : s.vm.findClass RX10 = some m.cls := findClass_of_methodNamed B.named
  have hlocks := B.notSynchronized
  subst hsz
  have hD := hD0.self (sz := s.heap.size)
  have hZ := xZ_A hZ hP hBW
  generalize hAe : va_A (xwT sk a t i q c d) s.heap.size = A at hD hZ ⊢
  have hA : ∀ q : Nat, s.heap.size ≤ q → A q := fun q h => by rw [← hAe]; exact Or.inr h
  have hS : va_S A s.heap s.heap [] := va_S.rf
  have hfi : ∀ k, k ∉ ([] : List Nat) → i k = i k := fun _ _ => rfl
  have hfc : ∀ k, k ∉ ([] : List Nat) → c k = c k := fun _ _ => rfl
  have hl := lv_entry ([.ref (a 104), .int k1]) (n := 2) (Nat.le_of_ble_eq_true rfl)
  rw [lg_entry_eq]
  generalize (lg_sl ([.ref (a 104), .int k1]) ++ List.replicate (2 - (lg_sl ([.ref (a 104), .int k1])).length) Slot.unset).toArray = ls at hl ⊢
  have hl : lv_has ls 2 [(0, .ref (a 104)), (1, .int k1)] := hl
  refine lv_aload_n hx hb dX10_addKind_0 rfl (lv_at hl 0 rfl) ?_
  refine xgT_W_parents hx hb hts (fun _ h => List.mem_cons_of_mem _ (List.mem_append_right _ h)) hown hK hP (hts (.fieldLink RX10 9 "TalePlay$World" "parents" "[I") (List.mem_cons_of_mem _ (List.mem_append_left _ (List.mem_of_getElem? (i := 0) rfl)))) dX10_addKind_1 ?_
  refine lv_aload_n hx hb dX10_addKind_4 rfl (lv_at hl 0 rfl) ?_
  refine xgT_W_kinds (v := (i 110)) rfl hx hb hts (fun _ h => List.mem_cons_of_mem _ (List.mem_append_right _ h)) hown hK hP (hts (.fieldLink RX10 33 "TalePlay$World" "kinds" "I") (List.mem_cons_of_mem _ (List.mem_append_left _ (List.mem_of_getElem? (i := 1) rfl)))) dX10_addKind_5 ?_
  have rb110_i : 6 ≤ (i 110).toInt ∧ (i 110).toInt ≤ 24 := hI.1 110
  refine lv_iload_n hx hb dX10_addKind_8 rfl (lv_at hl 1 rfl) ?_
  refine xsT_105 hx hb hK hP hD hS (vp_in_iff.mpr (by have h9 : (i 110).toInt = (i 110).toInt := rfl; omega)) dX10_addKind_9 (fun H locs hP hD hS => ?_)
  have hI := xInv_c hI (k := 105) (j := ((i 110) : Int32).toNatClampNeg) (x := k1) (show (k1 : Int32).toInt = -9 ∨ (0 ≤ (k1 : Int32).toInt ∧ (k1 : Int32).toInt ≤ 23) from by omega)
  have hfc : ∀ k, k ∉ ([105] : List Nat) → (updA c 105 ((i 110) : Int32).toNatClampNeg k1) k = c k := fr_cz hfc (by decide) (by decide)
  refine lv_aload_n hx hb dX10_addKind_10 rfl (lv_at hl 0 rfl) ?_
  refine xgT_W_sorts hx hb hts (fun _ h => List.mem_cons_of_mem _ (List.mem_append_right _ h)) hown hK hP (hts (.fieldLink RX10 15 "TalePlay$World" "sorts" "[I") (List.mem_cons_of_mem _ (List.mem_append_left _ (List.mem_of_getElem? (i := 2) rfl)))) dX10_addKind_11 ?_
  refine lv_aload_n hx hb dX10_addKind_14 rfl (lv_at hl 0 rfl) ?_
  refine xgT_W_kinds (v := (i 110)) rfl hx hb hts (fun _ h => List.mem_cons_of_mem _ (List.mem_append_right _ h)) hown hK hP (hts (.fieldLink RX10 33 "TalePlay$World" "kinds" "I") (List.mem_cons_of_mem _ (List.mem_append_left _ (List.mem_of_getElem? (i := 1) rfl)))) dX10_addKind_15 ?_
  refine lv_aload_n hx hb dX10_addKind_18 rfl (lv_at hl 0 rfl) ?_
  refine xgT_W_sorts hx hb hts (fun _ h => List.mem_cons_of_mem _ (List.mem_append_right _ h)) hown hK hP (hts (.fieldLink RX10 15 "TalePlay$World" "sorts" "[I") (List.mem_cons_of_mem _ (List.mem_append_left _ (List.mem_of_getElem? (i := 2) rfl)))) dX10_addKind_19 ?_
  refine lv_iload_n hx hb dX10_addKind_22 rfl (lv_at hl 1 rfl) ?_
  refine xlT_106 hx hb hK hP (vp_in_iff.mpr (by have h9 : k1.toInt = k1.toInt := rfl; omega)) dX10_addKind_23 (fun x1 ex1 => ?_)
  have rx1 : 0 ≤ x1.toInt ∧ x1.toInt ≤ 5 := by rw [ex1]; exact hI.2 106 _
  refine xsT_106 hx hb hK hP hD hS (vp_in_iff.mpr (by have h9 : (i 110).toInt = (i 110).toInt := rfl; omega)) dX10_addKind_24 (fun H locs hP hD hS => ?_)
  have hI := xInv_c hI (k := 106) (j := ((i 110) : Int32).toNatClampNeg) (x := x1) (show 0 ≤ (x1 : Int32).toInt ∧ (x1 : Int32).toInt ≤ 5 from by omega)
  have hfc : ∀ k, k ∉ ([105, 106] : List Nat) → (updA (updA c 105 ((i 110) : Int32).toNatClampNeg k1) 106 ((i 110) : Int32).toNatClampNeg x1) k = c k := fr_cz hfc (by decide) (by decide)
  refine lv_aload_n hx hb dX10_addKind_25 rfl (lv_at hl 0 rfl) ?_
  refine lv_dup hx hb dX10_addKind_26 rfl ?_
  refine xgT_W_kinds (v := (i 110)) rfl hx hb hts (fun _ h => List.mem_cons_of_mem _ (List.mem_append_right _ h)) hown hK hP (hts (.fieldLink RX10 33 "TalePlay$World" "kinds" "I") (List.mem_cons_of_mem _ (List.mem_append_left _ (List.mem_of_getElem? (i := 1) rfl)))) dX10_addKind_27 ?_
  refine lv_dup_x1 hx hb dX10_addKind_30 rfl rfl ?_
  refine lv_iconst (v := 1) hx hb dX10_addKind_31 (by decide) ?_
  refine lv_iadd hx hb dX10_addKind_32 ?_
  refine lv_topi (fun x2 ex2 => ?_)
  have tx2 := ti_add (a := (i 110).toInt) (b := 1) ex2 rfl (by decide) (by omega) (by omega)
  refine xpT_W_kinds hx hb hts (fun _ h => List.mem_cons_of_mem _ (List.mem_append_right _ h)) hown hK hP hD hS (hts (.fieldLink RX10 33 "TalePlay$World" "kinds" "I") (List.mem_cons_of_mem _ (List.mem_append_left _ (List.mem_of_getElem? (i := 1) rfl)))) rfl rfl dX10_addKind_33 (fun H locs hP hD hS => ?_)
  have hI := xInv_i hI (k := 110) (v := x2) (show 6 ≤ (x2 : Int32).toInt ∧ (x2 : Int32).toInt ≤ 24 from by have h9 : x2.toInt = ((i 110).toInt + 1) := tx2; omega)
  have hfi : ∀ k, k ∉ ([110] : List Nat) → (upd i 110 x2) k = i k := fr_iz hfi (by decide) (by decide)
  exact rw_iret ((upd i 110 x2), q, (updA (updA c 105 ((i 110) : Int32).toNatClampNeg k1) 106 ((i 110) : Int32).toNatClampNeg x1), d) hx hb hr hlocks hS (hK.sub (tys' := []) [] rfl) hP hD dX10_addKind_36 ⟨(show (i 110).toInt = (i 110).toInt from by omega), hI, fr_w hfi (by decide), fr_w hfc (by decide), (show (x2 : Int32).toInt = (i 110).toInt + 1 from by have h50 : x2.toInt = ((i 110).toInt + 1) := tx2; omega)⟩

def wm_X11_kind_e : List Cond := .code yX11_kind cX11_kind 2 (some .int) :: (([.fieldLink RX11 10 "TalePlay" "world" "LTalePlay$World;", .methodLink RX11 80 yX10_hasKind, .instanceMethod yX10_hasKind, .selects RX10 yX10_hasKind yX10_hasKind, .initialized RX10, .code yX10_hasKind cX10_hasKind 2 (some .boolean), .fieldLink RX10 33 "TalePlay$World" "kinds" "I", .fieldLink RX11 84 "TalePlay$World" "kinds" "I", .methodLink RX11 87 yX10_addKind, .instanceMethod yX10_addKind, .selects RX10 yX10_addKind yX10_addKind, .code yX10_addKind cX10_addKind 2 (some .int), .fieldLink RX10 9 "TalePlay$World" "parents" "[I", .fieldLink RX10 15 "TalePlay$World" "sorts" "[I"] : List Cond) ++ wsX110 ++ wsX100)
set_option maxRecDepth 20000 in
theorem gm_X11_kind_e_X10_hasKind_80 : GoodIn wm_X11_kind_e (wsV RX11 80 RX10 yX10_hasKind wm_X10_hasKind) := goodIn_w (List.forall_mem_append.mpr ⟨List.forall_mem_cons.mpr ⟨List.mem_cons_of_mem _ (List.mem_append_left _ (List.mem_append_left _ (List.mem_of_getElem? (i := 1) rfl))), List.forall_mem_cons.mpr ⟨List.mem_cons_of_mem _ (List.mem_append_left _ (List.mem_append_left _ (List.mem_of_getElem? (i := 2) rfl))), List.forall_mem_cons.mpr ⟨List.mem_cons_of_mem _ (List.mem_append_left _ (List.mem_append_left _ (List.mem_of_getElem? (i := 3) rfl))), List.forall_mem_cons.mpr ⟨List.mem_cons_of_mem _ (List.mem_append_left _ (List.mem_append_left _ (List.mem_of_getElem? (i := 4) rfl))), (fun _ h => absurd h List.not_mem_nil)⟩⟩⟩⟩, List.forall_mem_cons.mpr ⟨List.mem_cons_of_mem _ (List.mem_append_left _ (List.mem_append_left _ (List.mem_of_getElem? (i := 5) rfl))), List.forall_mem_append.mpr ⟨List.forall_mem_cons.mpr ⟨List.mem_cons_of_mem _ (List.mem_append_left _ (List.mem_append_left _ (List.mem_of_getElem? (i := 6) rfl))), (fun _ h => absurd h List.not_mem_nil)⟩, (fun _ h => List.mem_cons_of_mem _ (List.mem_append_right _ h))⟩⟩⟩) (by decide +kernel)
set_option maxRecDepth 20000 in
theorem gm_X11_kind_e_X10_addKind_e_87 : GoodIn wm_X11_kind_e (wsV RX11 87 RX10 yX10_addKind wm_X10_addKind_e) := goodIn_w (List.forall_mem_append.mpr ⟨List.forall_mem_cons.mpr ⟨List.mem_cons_of_mem _ (List.mem_append_left _ (List.mem_append_left _ (List.mem_of_getElem? (i := 8) rfl))), List.forall_mem_cons.mpr ⟨List.mem_cons_of_mem _ (List.mem_append_left _ (List.mem_append_left _ (List.mem_of_getElem? (i := 9) rfl))), List.forall_mem_cons.mpr ⟨List.mem_cons_of_mem _ (List.mem_append_left _ (List.mem_append_left _ (List.mem_of_getElem? (i := 10) rfl))), List.forall_mem_cons.mpr ⟨List.mem_cons_of_mem _ (List.mem_append_left _ (List.mem_append_left _ (List.mem_of_getElem? (i := 4) rfl))), (fun _ h => absurd h List.not_mem_nil)⟩⟩⟩⟩, List.forall_mem_cons.mpr ⟨List.mem_cons_of_mem _ (List.mem_append_left _ (List.mem_append_left _ (List.mem_of_getElem? (i := 11) rfl))), List.forall_mem_append.mpr ⟨List.forall_mem_cons.mpr ⟨List.mem_cons_of_mem _ (List.mem_append_left _ (List.mem_append_left _ (List.mem_of_getElem? (i := 12) rfl))), List.forall_mem_cons.mpr ⟨List.mem_cons_of_mem _ (List.mem_append_left _ (List.mem_append_left _ (List.mem_of_getElem? (i := 6) rfl))), List.forall_mem_cons.mpr ⟨List.mem_cons_of_mem _ (List.mem_append_left _ (List.mem_append_left _ (List.mem_of_getElem? (i := 13) rfl))), (fun _ h => absurd h List.not_mem_nil)⟩⟩⟩, (fun _ h => List.mem_cons_of_mem _ (List.mem_append_right _ h))⟩⟩⟩) (by decide +kernel)
set_option maxHeartbeats 4000000 in
set_option maxRecDepth 100000 in
theorem x_X11_kind_e (l : Launch) (D : va_G) (sz : Nat) (sk : Value) (a : Nat → Nat) (t : Nat → ClassId) (i : Nat → Int32) (q : Int64) (c : Nat → Nat → Int32) (d : Nat → Nat → Int64) (k1 : Int32) (hI : xInv i c) : Met l yX11_kind wm_X11_kind_e ({ frames := 1, cells := 0, slots := 0, locals := 21 }) (va_Pc [.ref (a 100), .int k1] (yB (a 186) D sz (xwT sk a t i q c d) (xtT t))) (va_Qi (fun (r : Int32) (u : MS) => True ∧ xInv u.1 u.2.2.1 ∧ (∀ k, k ∉ ([110] : List Nat) → u.1 k = i k) ∧ (∀ k, k ∉ ([105, 106] : List Nat) → u.2.2.1 k = c k) ∧ ((¬ (0 ≤ k1.toInt ∧ k1.toInt < (i 110).toInt) ∧ r.toInt = -1 ∧ (u.1 110).toInt = (i 110).toInt) ∨ (0 ≤ k1.toInt ∧ k1.toInt < (i 110).toInt ∧ 24 ≤ (i 110).toInt ∧ r.toInt = -2 ∧ (u.1 110).toInt = (i 110).toInt) ∨ (0 ≤ k1.toInt ∧ k1.toInt < (i 110).toInt ∧ (i 110).toInt ≤ 23 ∧ r.toInt = (i 110).toInt ∧ (u.1 110).toInt = (i 110).toInt + 1))) (oC D (va_A (xwT sk a t i q c d) sz) (fun u : MS => xwT sk a t u.1 u.2.1 u.2.2.1 u.2.2.2) (fun _ => [])) (va_A (xwT sk a t i q c d) sz)) 0 0 (va_A (xwT sk a t i q c d) sz) := by
  refine Met.ofW (cc := cX11_kind) (maxL := 2) (ret := (some .int)) (by decide) rfl ?_
  intro p e s m args below meth cd s₁ B hml hv
  obtain ⟨rfl, ⟨hsz, hP, hK, hD0⟩, hN, hZ, hBW⟩ := hv
  have hx := B.exec
  have hb := B.bytes
  have hr := B.returns
  have hts := atoms_spec (ws := wm_X11_kind_e) B.pre
  have hown : s.vm.findClass RX11 = some m.cls := findClass_of_methodNamed B.named
  have hlocks := B.notSynchronized
  subst hsz
  have hD := hD0.self (sz := s.heap.size)
  have hZ := xZ_A hZ hP hBW
  generalize hAe : va_A (xwT sk a t i q c d) s.heap.size = A at hD hZ ⊢
  have hA : ∀ q : Nat, s.heap.size ≤ q → A q := fun q h => by rw [← hAe]; exact Or.inr h
  have hS : va_S A s.heap s.heap [] := va_S.rf
  have hfi : ∀ k, k ∉ ([] : List Nat) → i k = i k := fun _ _ => rfl
  have hfc : ∀ k, k ∉ ([] : List Nat) → c k = c k := fun _ _ => rfl
  have hl := lv_entry ([.ref (a 100), .int k1]) (n := 2) (Nat.le_of_ble_eq_true rfl)
  rw [lg_entry_eq]
  generalize (lg_sl ([.ref (a 100), .int k1]) ++ List.replicate (2 - (lg_sl ([.ref (a 100), .int k1])).length) Slot.unset).toArray = ls at hl ⊢
  have hl : lv_has ls 2 [(0, .ref (a 100)), (1, .int k1)] := hl
  have rb110_i : 6 ≤ (i 110).toInt ∧ (i 110).toInt ≤ 24 := hI.1 110
  refine lv_aload_n hx hb dX11_kind_0 rfl (lv_at hl 0 rfl) ?_
  refine xgT_X_world hx hb hts (fun _ h => List.mem_cons_of_mem _ (List.mem_append_left _ (List.mem_append_right _ h))) hown hK hP (hts (.fieldLink RX11 10 "TalePlay" "world" "LTalePlay$World;") (List.mem_cons_of_mem _ (List.mem_append_left _ (List.mem_append_left _ (List.mem_of_getElem? (i := 0) rfl))))) dX11_kind_1 ?_
  refine lv_iload_n hx hb dX11_kind_4 rfl (lv_at hl 1 rfl) ?_
  refine ro_calli (va_runV (As := [.int k1]) (rest := []) ⟨hx, hb, hml, hown, hts⟩ (x_X10_hasKind l D s.heap.size .null a t i q c d k1 hI ) (cwV 1 hts gm_X11_kind_e_X10_hasKind_80 rfl rfl rfl (by decide +kernel) ⟨Nat.le_of_ble_eq_true rfl, Nat.le_of_ble_eq_true rfl⟩) (yA_V hN (xZ_k hZ hS hA) (xkT_W hK) (xuT_W (sk := sk) hP) (ci := 10) (q0 := 0) rfl rfl) rfl rfl hl.1 rfl (lv_room (Nat.le_of_ble_eq_true rfl)) dX11_kind_5 ⟨Nat.le_of_ble_eq_true rfl, Nat.le_of_ble_eq_true rfl⟩) hS hA hP (fun r1 u1 H locs hw1 hP hS => ?_)
  have hw1 : r1 = if (0 ≤ k1.toInt ∧ k1.toInt < (i 110).toInt) then 1 else 0 := hw1
  refine lv_if_ne (tgt := 13) hx hb dX11_kind_8 (by decide) (fun c2 => ?_) (fun c2 => ?_)
  · have f2 := fl_t hw1 c2
    refine lv_aload_n hx hb dX11_kind_13 rfl (lv_at hl 0 rfl) ?_
    refine xgT_X_world hx hb hts (fun _ h => List.mem_cons_of_mem _ (List.mem_append_left _ (List.mem_append_right _ h))) hown hK hP (hts (.fieldLink RX11 10 "TalePlay" "world" "LTalePlay$World;") (List.mem_cons_of_mem _ (List.mem_append_left _ (List.mem_append_left _ (List.mem_of_getElem? (i := 0) rfl))))) dX11_kind_14 ?_
    refine xgT_W_kinds (v := (i 110)) rfl hx hb hts (fun _ h => List.mem_cons_of_mem _ (List.mem_append_right _ h)) hown hK hP (hts (.fieldLink RX11 84 "TalePlay$World" "kinds" "I") (List.mem_cons_of_mem _ (List.mem_append_left _ (List.mem_append_left _ (List.mem_of_getElem? (i := 7) rfl))))) dX11_kind_17 ?_
    refine lv_bipush (v := 24) hx hb dX11_kind_20 (by decide) ?_
    refine lv_icmp_lt (tgt := 28) hx hb dX11_kind_22 (by decide) (fun c3 => ?_) (fun c3 => ?_)
    · have f3 := (ti_lt (a := (i 110).toInt) (b := 24) rfl (by decide)).mp c3
      refine lv_aload_n hx hb dX11_kind_28 rfl (lv_at hl 0 rfl) ?_
      refine xgT_X_world hx hb hts (fun _ h => List.mem_cons_of_mem _ (List.mem_append_left _ (List.mem_append_right _ h))) hown hK hP (hts (.fieldLink RX11 10 "TalePlay" "world" "LTalePlay$World;") (List.mem_cons_of_mem _ (List.mem_append_left _ (List.mem_append_left _ (List.mem_of_getElem? (i := 0) rfl))))) dX11_kind_29 ?_
      refine lv_iload_n hx hb dX11_kind_32 rfl (lv_at hl 1 rfl) ?_
      refine al_calli (va_runV (As := [.int k1]) (rest := []) ⟨hx, hb, hml, hown, hts⟩ (x_X10_addKind_e l D H.size sk a t i q c d k1 hI (show 0 ≤ k1.toInt ∧ k1.toInt ≤ 23 from by omega) (show ((i 110) : Int32).toInt ≤ 23 from by omega)) (cwV 1 hts gm_X11_kind_e_X10_addKind_e_87 rfl rfl rfl (by decide +kernel) ⟨Nat.le_of_ble_eq_true rfl, Nat.le_of_ble_eq_true rfl⟩) (yB_V hN (xZ_k hZ hS hA) (xZ_n hZ hD) hK hP hD (ci := 10) (q0 := 2) rfl rfl) rfl rfl hl.1 rfl (lv_room (Nat.le_of_ble_eq_true rfl)) dX11_kind_33 ⟨Nat.le_of_ble_eq_true rfl, Nat.le_of_ble_eq_true rfl⟩) hS hA hP hD (fun r4 u4 H locs hw4 hP hD hS => ?_)
      obtain ⟨i4, q4, c4, d4⟩ := u4
      have hw4 : (r4.toInt = (i 110).toInt) ∧ xInv i4 c4 ∧ (∀ k, k ∉ ([110] : List Nat) → i4 k = i k) ∧ (∀ k, k ∉ ([105, 106] : List Nat) → c4 k = c k) ∧ ((i4 110).toInt = (i 110).toInt + 1) := hw4
      obtain ⟨hw4, hI, hei4, hec4, hxp4_0⟩ := hw4
      have hxp4_0 : (i4 110).toInt = (i 110).toInt + 1 := hxp4_0
      have hfi : ∀ k, k ∉ ([110] : List Nat) → i4 k = i k := fr_z hfi hei4 (by decide) (by decide)
      have hfc : ∀ k, k ∉ ([105, 106] : List Nat) → c4 k = c k := fr_z hfc hec4 (by decide) (by decide)
      exact rw_iret (i4, q4, c4, d4) hx hb hr hlocks hS (hK.sub (tys' := []) [] rfl) hP hD dX11_kind_36 ⟨trivial, hI, fr_w hfi (by decide), fr_w hfc (by decide), (show (¬ (0 ≤ k1.toInt ∧ k1.toInt < (i 110).toInt) ∧ (r4 : Int32).toInt = -1 ∧ ((i4 110) : Int32).toInt = (i 110).toInt) ∨ (0 ≤ k1.toInt ∧ k1.toInt < (i 110).toInt ∧ 24 ≤ (i 110).toInt ∧ (r4 : Int32).toInt = -2 ∧ ((i4 110) : Int32).toInt = (i 110).toInt) ∨ (0 ≤ k1.toInt ∧ k1.toInt < (i 110).toInt ∧ (i 110).toInt ≤ 23 ∧ (r4 : Int32).toInt = (i 110).toInt ∧ ((i4 110) : Int32).toInt = (i 110).toInt + 1) from by omega)⟩
    · have f3 := mt (ti_lt (a := (i 110).toInt) (b := 24) rfl (by decide)).mpr c3
      refine lv_bipush (v := (-2)) hx hb dX11_kind_25 (by decide) ?_
      exact rw_iret (i, q, c, d) hx hb hr hlocks hS (hK.sub (tys' := []) [] rfl) hP hD dX11_kind_27 ⟨trivial, hI, fr_w hfi (by decide), fr_w hfc (by decide), (show (¬ (0 ≤ k1.toInt ∧ k1.toInt < (i 110).toInt) ∧ ((-2) : Int32).toInt = -1 ∧ ((i 110) : Int32).toInt = (i 110).toInt) ∨ (0 ≤ k1.toInt ∧ k1.toInt < (i 110).toInt ∧ 24 ≤ (i 110).toInt ∧ ((-2) : Int32).toInt = -2 ∧ ((i 110) : Int32).toInt = (i 110).toInt) ∨ (0 ≤ k1.toInt ∧ k1.toInt < (i 110).toInt ∧ (i 110).toInt ≤ 23 ∧ ((-2) : Int32).toInt = (i 110).toInt ∧ ((i 110) : Int32).toInt = (i 110).toInt + 1) from by have h53 : ((-2) : Int32).toInt = -2 := (by decide); omega)⟩
  · have f2 := fl_f hw1 c2
    refine lv_iconst (v := (-1)) hx hb dX11_kind_11 (by decide) ?_
    exact rw_iret (i, q, c, d) hx hb hr hlocks hS (hK.sub (tys' := []) [] rfl) hP hD dX11_kind_12 ⟨trivial, hI, fr_w hfi (by decide), fr_w hfc (by decide), (show (¬ (0 ≤ k1.toInt ∧ k1.toInt < (i 110).toInt) ∧ ((-1) : Int32).toInt = -1 ∧ ((i 110) : Int32).toInt = (i 110).toInt) ∨ (0 ≤ k1.toInt ∧ k1.toInt < (i 110).toInt ∧ 24 ≤ (i 110).toInt ∧ ((-1) : Int32).toInt = -2 ∧ ((i 110) : Int32).toInt = (i 110).toInt) ∨ (0 ≤ k1.toInt ∧ k1.toInt < (i 110).toInt ∧ (i 110).toInt ≤ 23 ∧ ((-1) : Int32).toInt = (i 110).toInt ∧ ((i 110) : Int32).toInt = (i 110).toInt + 1) from by have h53 : ((-1) : Int32).toInt = -1 := (by decide); omega)⟩

set_option maxHeartbeats 4000000 in
set_option maxRecDepth 100000 in
theorem s_X12_kind_e (l : Launch) (D : va_G) (sz : Nat) (o : Nat) (a : Nat → Nat) (t : Nat → ClassId) (i : Nat → Int32) (q : Int64) (c : Nat → Nat → Int32) (d : Nat → Nat → Int64) (p1 : Int32) (hI : mInv i c) (hs_S : SJ (c 3) (c 6) (c 9) (c 10) (c 11) (c 13) (i 2).toInt (i 5).toInt (i 8).toInt) (hs_J : TJ (c 3) (c 6) (c 23) (c 24) (c 29) (c 30) (i 5).toInt (i 22).toInt (i 27).toInt) : Met l yX12_kind wm_X12_kind ({ frames := 1, cells := 0, slots := 0, locals := 25 }) (va_Pc [.ref o, .int p1] (pB D sz (mW o a t i q c d) (mT t))) (va_Qi (fun (r : Int32) (u : MS) => True ∧ mInv u.1 u.2.2.1 ∧ (∀ k, k ∉ ([2] : List Nat) → u.1 k = i k) ∧ (∀ k, k ∉ ([3] : List Nat) → u.2.2.1 k = c k) ∧ (SJ (u.2.2.1 3) (u.2.2.1 6) (u.2.2.1 9) (u.2.2.1 10) (u.2.2.1 11) (u.2.2.1 13) (u.1 2).toInt (u.1 5).toInt (u.1 8).toInt) ∧ (TJ (u.2.2.1 3) (u.2.2.1 6) (u.2.2.1 23) (u.2.2.1 24) (u.2.2.1 29) (u.2.2.1 30) (u.1 5).toInt (u.1 22).toInt (u.1 27).toInt) ∧ ((¬ (0 ≤ p1.toInt ∧ p1.toInt < (i 2).toInt) ∧ r.toInt = -1 ∧ (u.1 2).toInt = (i 2).toInt) ∨ (0 ≤ p1.toInt ∧ p1.toInt < (i 2).toInt ∧ 24 ≤ (i 2).toInt ∧ r.toInt = -2 ∧ (u.1 2).toInt = (i 2).toInt) ∨ (0 ≤ p1.toInt ∧ p1.toInt < (i 2).toInt ∧ (i 2).toInt ≤ 23 ∧ r.toInt = (i 2).toInt ∧ (u.1 2).toInt = (i 2).toInt + 1))) (oC D (va_A (mW o a t i q c d) sz) (fun u : MS => mW o a t u.1 u.2.1 u.2.2.1 u.2.2.2) (fun _ => [])) (va_A (mW o a t i q c d) sz)) 0 0 (va_A (mW o a t i q c d) sz) := by
  refine Met.ofW (cc := cX12_kind) (maxL := 2) (ret := (some .int)) (by decide) rfl ?_
  intro p e s m args below meth cd s₁ B hml hv
  obtain ⟨rfl, hsz, hP, hK, hD0⟩ := hv
  have hx := B.exec
  have hb := B.bytes
  have hr := B.returns
  have hts := atoms_spec (ws := wm_X12_kind) B.pre
  have hown : s.vm.findClass RX12 = some m.cls := findClass_of_methodNamed B.named
  have hlocks := B.notSynchronized
  subst hsz
  have hD := hD0.self (sz := s.heap.size)
  generalize hAe : va_A (mW o a t i q c d) s.heap.size = A at hD ⊢
  have hA : ∀ q : Nat, s.heap.size ≤ q → A q := fun q h => by rw [← hAe]; exact Or.inr h
  have hS : va_S A s.heap s.heap [] := va_S.rf
  have hfi : ∀ k, k ∉ ([] : List Nat) → i k = i k := fun _ _ => rfl
  have hfc : ∀ k, k ∉ ([] : List Nat) → c k = c k := fun _ _ => rfl
  have hl := lv_entry ([.ref o, .int p1]) (n := 2) (Nat.le_of_ble_eq_true rfl)
  rw [lg_entry_eq]
  generalize (lg_sl ([.ref o, .int p1]) ++ List.replicate (2 - (lg_sl ([.ref o, .int p1])).length) Slot.unset).toArray = ls at hl ⊢
  have hl : lv_has ls 2 [(0, .ref o), (1, .int p1)] := hl
  have hI0 := hI
  have rb2_i : 6 ≤ (i 2).toInt ∧ (i 2).toInt ≤ 24 := hI.1 2
  refine lv_iload_n hx hb dX12_kind_0 rfl (lv_at hl 1 rfl) ?_
  refine lv_i2l (v := p1.toInt64) hx hb dX12_kind_1 rfl ?_
  refine lv_lconst (v := 0) hx hb dX12_kind_2 (by decide) ?_
  refine lv_aload_n hx hb dX12_kind_3 rfl (lv_at hl 0 rfl) ?_
  refine mget_2 (v := (i 2)) rfl hx hb hts (fun _ h => List.mem_cons_of_mem _ (List.mem_append_right _ h)) hown hK hP (hts (.fieldLink RX12 151 "TalePlayModel" "kinds" "I") (List.mem_cons_of_mem _ (List.mem_append_left _ (List.mem_of_getElem? (i := 0) rfl)))) dX12_kind_4 ?_
  refine lv_iconst (v := 1) hx hb dX12_kind_7 (by decide) ?_
  refine lv_isub hx hb dX12_kind_8 ?_
  refine lv_topi (fun x1 ex1 => ?_)
  have tx1 := ti_sub (a := (i 2).toInt) (b := 1) ex1 rfl (by decide) (by omega) (by omega)
  refine lv_i2l (v := x1.toInt64) hx hb dX12_kind_9 rfl ?_
  have hPc := hP.sub (ws' := []) [] rfl
  have hKc := hK.sub (tys' := []) [] rfl
  refine ro_calli (va_runS (As := [.long p1.toInt64, .long 0, .long x1.toInt64]) (rest := []) ⟨hx, hb, hml, hown, hts⟩ (c_X12_in l D s.heap.size p1.toInt64 0 x1.toInt64 p1.toInt 0 ((i 2).toInt - 1) ((Int32.toInt_toInt64 p1).trans rfl) (by decide) ((Int32.toInt_toInt64 x1).trans tx1)) (va_cwS 3 hts gm_X12_kind_X12_in rfl rfl rfl (by decide +kernel) ⟨Nat.le_of_ble_eq_true rfl, Nat.le_of_ble_eq_true rfl⟩) (pA_S hKc hPc) rfl rfl hl.1 rfl (lv_room (Nat.le_of_ble_eq_true rfl)) dX12_kind_10 ⟨Nat.le_of_ble_eq_true rfl, Nat.le_of_ble_eq_true rfl⟩) hS hA hP (fun r2 u2 H locs hw2 hP hS => ?_)
  have hw2 : r2 = if (0 ≤ p1.toInt ∧ p1.toInt ≤ ((i 2).toInt - 1)) then 1 else 0 := hw2
  refine lv_if_ne (tgt := 18) hx hb dX12_kind_13 (by decide) (fun c3 => ?_) (fun c3 => ?_)
  · have f3 := fl_t hw2 c3
    refine lv_aload_n hx hb dX12_kind_18 rfl (lv_at hl 0 rfl) ?_
    refine mget_2 (v := (i 2)) rfl hx hb hts (fun _ h => List.mem_cons_of_mem _ (List.mem_append_right _ h)) hown hK hP (hts (.fieldLink RX12 151 "TalePlayModel" "kinds" "I") (List.mem_cons_of_mem _ (List.mem_append_left _ (List.mem_of_getElem? (i := 0) rfl)))) dX12_kind_19 ?_
    refine lv_bipush (v := 24) hx hb dX12_kind_22 (by decide) ?_
    refine lv_icmp_ne (tgt := 30) hx hb dX12_kind_24 (by decide) (fun c4 => ?_) (fun c4 => ?_)
    · have f4 := mt (ti_eq (a := (i 2).toInt) (b := 24) rfl (by decide)).mpr c4
      refine lv_aload_n hx hb dX12_kind_30 rfl (lv_at hl 0 rfl) ?_
      refine mget_3 hx hb hts (fun _ h => List.mem_cons_of_mem _ (List.mem_append_right _ h)) hown hK hP (hts (.fieldLink RX12 13 "TalePlayModel" "parentOf" "[I") (List.mem_cons_of_mem _ (List.mem_append_left _ (List.mem_of_getElem? (i := 5) rfl)))) dX12_kind_31 ?_
      refine lv_aload_n hx hb dX12_kind_34 rfl (lv_at hl 0 rfl) ?_
      refine mget_2 (v := (i 2)) rfl hx hb hts (fun _ h => List.mem_cons_of_mem _ (List.mem_append_right _ h)) hown hK hP (hts (.fieldLink RX12 151 "TalePlayModel" "kinds" "I") (List.mem_cons_of_mem _ (List.mem_append_left _ (List.mem_of_getElem? (i := 0) rfl)))) dX12_kind_35 ?_
      refine lv_iload_n hx hb dX12_kind_38 rfl (lv_at hl 1 rfl) ?_
      have rc5 : ((((i 2) : Int32).toNatClampNeg : Nat) : Int) = ((i 2) : Int32).toInt := cl_nn (by have h9 : (i 2).toInt = (i 2).toInt := rfl; omega)
      refine mst_3 hx hb hK hP hD hS (vp_in_iff.mpr (by have h9 : (i 2).toInt = (i 2).toInt := rfl; omega)) dX12_kind_39 (fun H locs hP hD hS => ?_)
      have hI := mInv_c hI (k := 3) (j := ((i 2) : Int32).toNatClampNeg) (x := p1) (show (((((i 2) : Int32).toNatClampNeg : Nat) : Int) ≤ 1 ∧ (p1 : Int32).toInt = -9) ∨ (2 ≤ ((((i 2) : Int32).toNatClampNeg : Nat) : Int) ∧ ((((i 2) : Int32).toNatClampNeg : Nat) : Int) ≤ 5 ∧ (p1 : Int32).toInt = 1) ∨ (6 ≤ ((((i 2) : Int32).toNatClampNeg : Nat) : Int) ∧ 0 ≤ (p1 : Int32).toInt ∧ (p1 : Int32).toInt ≤ 23 ∧ (p1 : Int32).toInt < ((((i 2) : Int32).toNatClampNeg : Nat) : Int)) from by omega)
      have hfc : ∀ k, k ∉ ([3] : List Nat) → (updA c 3 ((i 2) : Int32).toNatClampNeg p1) k = c k := fr_cz hfc (by decide) (by decide)
      refine lv_aload_n hx hb dX12_kind_40 rfl (lv_at hl 0 rfl) ?_
      refine lv_dup hx hb dX12_kind_41 rfl ?_
      refine mget_2 (v := (i 2)) rfl hx hb hts (fun _ h => List.mem_cons_of_mem _ (List.mem_append_right _ h)) hown hK hP (hts (.fieldLink RX12 151 "TalePlayModel" "kinds" "I") (List.mem_cons_of_mem _ (List.mem_append_left _ (List.mem_of_getElem? (i := 0) rfl)))) dX12_kind_42 ?_
      refine lv_iconst (v := 1) hx hb dX12_kind_45 (by decide) ?_
      refine lv_iadd hx hb dX12_kind_46 ?_
      refine lv_topi (fun x6 ex6 => ?_)
      have tx6 := ti_add (a := (i 2).toInt) (b := 1) ex6 rfl (by decide) (by omega) (by omega)
      refine mput_2 hx hb hts (fun _ h => List.mem_cons_of_mem _ (List.mem_append_right _ h)) hown hK hP hD hS (hts (.fieldLink RX12 151 "TalePlayModel" "kinds" "I") (List.mem_cons_of_mem _ (List.mem_append_left _ (List.mem_of_getElem? (i := 0) rfl)))) rfl rfl dX12_kind_47 (fun H locs hP hD hS => ?_)
      have hI := mInv_i hI (k := 2) (v := x6) (show 6 ≤ (x6 : Int32).toInt ∧ (x6 : Int32).toInt ≤ 24 from by have h9 : x6.toInt = ((i 2).toInt + 1) := tx6; omega)
      have hfi : ∀ k, k ∉ ([2] : List Nat) → (upd i 2 x6) k = i k := fr_iz hfi (by decide) (by decide)
      refine lv_aload_n hx hb dX12_kind_50 rfl (lv_at hl 0 rfl) ?_
      refine mget_2 (i := (upd i 2 x6)) (v := x6) rfl hx hb hts (fun _ h => List.mem_cons_of_mem _ (List.mem_append_right _ h)) hown hK hP (hts (.fieldLink RX12 151 "TalePlayModel" "kinds" "I") (List.mem_cons_of_mem _ (List.mem_append_left _ (List.mem_of_getElem? (i := 0) rfl)))) dX12_kind_51 ?_
      refine lv_iconst (v := 1) hx hb dX12_kind_54 (by decide) ?_
      refine lv_isub hx hb dX12_kind_55 ?_
      refine lv_topi (fun x7 ex7 => ?_)
      have tx7 := ti_sub (a := ((i 2).toInt + 1)) (b := 1) ex7 tx6 (by decide) (by omega) (by omega)
      exact rw_iret ((upd i 2 x6), q, (updA c 3 ((i 2) : Int32).toNatClampNeg p1), d) hx hb hr hlocks hS (hK.sub (tys' := []) [] rfl) hP hD dX12_kind_56 ⟨trivial, hI, fr_w hfi (by decide), fr_w hfc (by decide), (show SJ ((updA c 3 ((i 2) : Int32).toNatClampNeg p1) 3) ((updA c 3 ((i 2) : Int32).toNatClampNeg p1) 6) ((updA c 3 ((i 2) : Int32).toNatClampNeg p1) 9) ((updA c 3 ((i 2) : Int32).toNatClampNeg p1) 10) ((updA c 3 ((i 2) : Int32).toNatClampNeg p1) 11) ((updA c 3 ((i 2) : Int32).toNatClampNeg p1) 13) (x6 : Int32).toInt ((i 5) : Int32).toInt ((i 8) : Int32).toInt from by show SJ (upd (c 3) ((i 2) : Int32).toNatClampNeg p1) (c 6) (c 9) (c 10) (c 11) (c 13) x6.toInt (i 5).toInt (i 8).toInt; rw [tx6]; exact SJ_kind (kn := (i 2).toInt) hs_S (fun j _ => mI_pa hI0 j) (by omega) (mI_ko hI0) (mI_le hI0) (fun o => (mI_mi hI0 o).1)), (show TJ ((updA c 3 ((i 2) : Int32).toNatClampNeg p1) 3) ((updA c 3 ((i 2) : Int32).toNatClampNeg p1) 6) ((updA c 3 ((i 2) : Int32).toNatClampNeg p1) 23) ((updA c 3 ((i 2) : Int32).toNatClampNeg p1) 24) ((updA c 3 ((i 2) : Int32).toNatClampNeg p1) 29) ((updA c 3 ((i 2) : Int32).toNatClampNeg p1) 30) ((i 5) : Int32).toInt ((i 22) : Int32).toInt ((i 27) : Int32).toInt from by show TJ (upd (c 3) ((i 2) : Int32).toNatClampNeg p1) (c 6) (c 23) (c 24) (c 29) (c 30) (i 5).toInt (i 22).toInt (i 27).toInt; exact TJ_kind (kn := (i 2).toInt) hs_J hs_S.1 (fun j _ => mI_pa hI0 j) (by omega) (mI_ko hI0)), (show (¬ (0 ≤ p1.toInt ∧ p1.toInt < (i 2).toInt) ∧ (x7 : Int32).toInt = -1 ∧ (x6 : Int32).toInt = (i 2).toInt) ∨ (0 ≤ p1.toInt ∧ p1.toInt < (i 2).toInt ∧ 24 ≤ (i 2).toInt ∧ (x7 : Int32).toInt = -2 ∧ (x6 : Int32).toInt = (i 2).toInt) ∨ (0 ≤ p1.toInt ∧ p1.toInt < (i 2).toInt ∧ (i 2).toInt ≤ 23 ∧ (x7 : Int32).toInt = (i 2).toInt ∧ (x6 : Int32).toInt = (i 2).toInt + 1) from by have h50 : x6.toInt = ((i 2).toInt + 1) := tx6; have h51 : x6.toInt = ((i 2).toInt + 1) := tx6; have h52 : x6.toInt = ((i 2).toInt + 1) := tx6; have h53 : x7.toInt = (((i 2).toInt + 1) - 1) := tx7; omega)⟩
    · have f4 := (ti_eq (a := (i 2).toInt) (b := 24) rfl (by decide)).mp c4
      refine lv_bipush (v := (-2)) hx hb dX12_kind_27 (by decide) ?_
      exact rw_iret (i, q, c, d) hx hb hr hlocks hS (hK.sub (tys' := []) [] rfl) hP hD dX12_kind_29 ⟨trivial, hI, fr_w hfi (by decide), fr_w hfc (by decide), (show SJ (c 3) (c 6) (c 9) (c 10) (c 11) (c 13) ((i 2) : Int32).toInt ((i 5) : Int32).toInt ((i 8) : Int32).toInt from hs_S), (show TJ (c 3) (c 6) (c 23) (c 24) (c 29) (c 30) ((i 5) : Int32).toInt ((i 22) : Int32).toInt ((i 27) : Int32).toInt from hs_J), (show (¬ (0 ≤ p1.toInt ∧ p1.toInt < (i 2).toInt) ∧ ((-2) : Int32).toInt = -1 ∧ ((i 2) : Int32).toInt = (i 2).toInt) ∨ (0 ≤ p1.toInt ∧ p1.toInt < (i 2).toInt ∧ 24 ≤ (i 2).toInt ∧ ((-2) : Int32).toInt = -2 ∧ ((i 2) : Int32).toInt = (i 2).toInt) ∨ (0 ≤ p1.toInt ∧ p1.toInt < (i 2).toInt ∧ (i 2).toInt ≤ 23 ∧ ((-2) : Int32).toInt = (i 2).toInt ∧ ((i 2) : Int32).toInt = (i 2).toInt + 1) from by have h53 : ((-2) : Int32).toInt = -2 := (by decide); omega)⟩
  · have f3 := fl_f hw2 c3
    refine lv_iconst (v := (-1)) hx hb dX12_kind_16 (by decide) ?_
    exact rw_iret (i, q, c, d) hx hb hr hlocks hS (hK.sub (tys' := []) [] rfl) hP hD dX12_kind_17 ⟨trivial, hI, fr_w hfi (by decide), fr_w hfc (by decide), (show SJ (c 3) (c 6) (c 9) (c 10) (c 11) (c 13) ((i 2) : Int32).toInt ((i 5) : Int32).toInt ((i 8) : Int32).toInt from hs_S), (show TJ (c 3) (c 6) (c 23) (c 24) (c 29) (c 30) ((i 5) : Int32).toInt ((i 22) : Int32).toInt ((i 27) : Int32).toInt from hs_J), (show (¬ (0 ≤ p1.toInt ∧ p1.toInt < (i 2).toInt) ∧ ((-1) : Int32).toInt = -1 ∧ ((i 2) : Int32).toInt = (i 2).toInt) ∨ (0 ≤ p1.toInt ∧ p1.toInt < (i 2).toInt ∧ 24 ≤ (i 2).toInt ∧ ((-1) : Int32).toInt = -2 ∧ ((i 2) : Int32).toInt = (i 2).toInt) ∨ (0 ≤ p1.toInt ∧ p1.toInt < (i 2).toInt ∧ (i 2).toInt ≤ 23 ∧ ((-1) : Int32).toInt = (i 2).toInt ∧ ((i 2) : Int32).toInt = (i 2).toInt + 1) from by have h53 : ((-1) : Int32).toInt = -1 := (by decide); omega)⟩

def wm_X10_addObject_e : List Cond := .code yX10_addObject cX10_addObject 3 (some .int) :: (([.fieldLink RX10 21 "TalePlay$World" "kindOf" "[I", .fieldLink RX10 37 "TalePlay$World" "objects" "I", .fieldLink RX10 24 "TalePlay$World" "sizeOf" "[I"] : List Cond) ++ wsX100)
set_option maxHeartbeats 4000000 in
set_option maxRecDepth 100000 in
theorem x_X10_addObject_e (l : Launch) (D : va_G) (sz : Nat) (sk : Value) (a : Nat → Nat) (t : Nat → ClassId) (i : Nat → Int32) (q : Int64) (c : Nat → Nat → Int32) (d : Nat → Nat → Int64) (k1 : Int32) (s1 : Int32) (hI : xInv i c) (hk1 : 0 ≤ k1.toInt ∧ k1.toInt ≤ 23) (hs1 : 0 ≤ s1.toInt ∧ s1.toInt ≤ 99) (hon : (i 111).toInt ≤ 29) : Met l yX10_addObject wm_X10_addObject_e ({ frames := 0, cells := 0, slots := 0, locals := 0 }) (va_Pc [.ref (a 104), .int k1, .int s1] (yB (a 186) D sz (xwT sk a t i q c d) (xtT t))) (va_Qi (fun (r : Int32) (u : MS) => (r.toInt = (i 111).toInt) ∧ xInv u.1 u.2.2.1 ∧ (∀ k, k ∉ ([111] : List Nat) → u.1 k = i k) ∧ (∀ k, k ∉ ([108, 109] : List Nat) → u.2.2.1 k = c k) ∧ ((u.1 111).toInt = (i 111).toInt + 1)) (oC D (va_A (xwT sk a t i q c d) sz) (fun u : MS => xwT sk a t u.1 u.2.1 u.2.2.1 u.2.2.2) (fun _ => [])) (va_A (xwT sk a t i q c d) sz)) 0 0 (va_A (xwT sk a t i q c d) sz) := by
  refine Met.ofW (cc := cX10_addObject) (maxL := 3) (ret := (some .int)) (by decide) rfl ?_
  intro p e s m args below meth cd s₁ B hml hv
  obtain ⟨rfl, ⟨hsz, hP, hK, hD0⟩, hN, hZ, hBW⟩ := hv
  have hx := B.exec
  have hb := B.bytes
  have hr := B.returns
  have hts := atoms_spec (ws := wm_X10_addObject_e) B.pre
  have hown : s.vm.findClass RX10 = some m.cls := findClass_of_methodNamed B.named
  have hlocks := B.notSynchronized
  subst hsz
  have hD := hD0.self (sz := s.heap.size)
  have hZ := xZ_A hZ hP hBW
  generalize hAe : va_A (xwT sk a t i q c d) s.heap.size = A at hD hZ ⊢
  have hA : ∀ q : Nat, s.heap.size ≤ q → A q := fun q h => by rw [← hAe]; exact Or.inr h
  have hS : va_S A s.heap s.heap [] := va_S.rf
  have hfi : ∀ k, k ∉ ([] : List Nat) → i k = i k := fun _ _ => rfl
  have hfc : ∀ k, k ∉ ([] : List Nat) → c k = c k := fun _ _ => rfl
  have hl := lv_entry ([.ref (a 104), .int k1, .int s1]) (n := 3) (Nat.le_of_ble_eq_true rfl)
  rw [lg_entry_eq]
  generalize (lg_sl ([.ref (a 104), .int k1, .int s1]) ++ List.replicate (3 - (lg_sl ([.ref (a 104), .int k1, .int s1])).length) Slot.unset).toArray = ls at hl ⊢
  have hl : lv_has ls 3 [(0, .ref (a 104)), (1, .int k1), (2, .int s1)] := hl
  refine lv_aload_n hx hb dX10_addObject_0 rfl (lv_at hl 0 rfl) ?_
  refine xgT_W_kindOf hx hb hts (fun _ h => List.mem_cons_of_mem _ (List.mem_append_right _ h)) hown hK hP (hts (.fieldLink RX10 21 "TalePlay$World" "kindOf" "[I") (List.mem_cons_of_mem _ (List.mem_append_left _ (List.mem_of_getElem? (i := 0) rfl)))) dX10_addObject_1 ?_
  refine lv_aload_n hx hb dX10_addObject_4 rfl (lv_at hl 0 rfl) ?_
  refine xgT_W_objects (v := (i 111)) rfl hx hb hts (fun _ h => List.mem_cons_of_mem _ (List.mem_append_right _ h)) hown hK hP (hts (.fieldLink RX10 37 "TalePlay$World" "objects" "I") (List.mem_cons_of_mem _ (List.mem_append_left _ (List.mem_of_getElem? (i := 1) rfl)))) dX10_addObject_5 ?_
  have rb111_i : 0 ≤ (i 111).toInt ∧ (i 111).toInt ≤ 30 := hI.1 111
  refine lv_iload_n hx hb dX10_addObject_8 rfl (lv_at hl 1 rfl) ?_
  refine xsT_108 hx hb hK hP hD hS (vp_in_iff.mpr (by have h9 : (i 111).toInt = (i 111).toInt := rfl; omega)) dX10_addObject_9 (fun H locs hP hD hS => ?_)
  have hI := xInv_c hI (k := 108) (j := ((i 111) : Int32).toNatClampNeg) (x := k1) (show 0 ≤ (k1 : Int32).toInt ∧ (k1 : Int32).toInt ≤ 23 from by omega)
  have hfc : ∀ k, k ∉ ([108] : List Nat) → (updA c 108 ((i 111) : Int32).toNatClampNeg k1) k = c k := fr_cz hfc (by decide) (by decide)
  refine lv_aload_n hx hb dX10_addObject_10 rfl (lv_at hl 0 rfl) ?_
  refine xgT_W_sizeOf hx hb hts (fun _ h => List.mem_cons_of_mem _ (List.mem_append_right _ h)) hown hK hP (hts (.fieldLink RX10 24 "TalePlay$World" "sizeOf" "[I") (List.mem_cons_of_mem _ (List.mem_append_left _ (List.mem_of_getElem? (i := 2) rfl)))) dX10_addObject_11 ?_
  refine lv_aload_n hx hb dX10_addObject_14 rfl (lv_at hl 0 rfl) ?_
  refine xgT_W_objects (v := (i 111)) rfl hx hb hts (fun _ h => List.mem_cons_of_mem _ (List.mem_append_right _ h)) hown hK hP (hts (.fieldLink RX10 37 "TalePlay$World" "objects" "I") (List.mem_cons_of_mem _ (List.mem_append_left _ (List.mem_of_getElem? (i := 1) rfl)))) dX10_addObject_15 ?_
  refine lv_iload_n hx hb dX10_addObject_18 rfl (lv_at hl 2 rfl) ?_
  refine xsT_109 hx hb hK hP hD hS (vp_in_iff.mpr (by have h9 : (i 111).toInt = (i 111).toInt := rfl; omega)) dX10_addObject_19 (fun H locs hP hD hS => ?_)
  have hI := xInv_c hI (k := 109) (j := ((i 111) : Int32).toNatClampNeg) (x := s1) (show 0 ≤ (s1 : Int32).toInt ∧ (s1 : Int32).toInt ≤ 99 from by omega)
  have hfc : ∀ k, k ∉ ([108, 109] : List Nat) → (updA (updA c 108 ((i 111) : Int32).toNatClampNeg k1) 109 ((i 111) : Int32).toNatClampNeg s1) k = c k := fr_cz hfc (by decide) (by decide)
  refine lv_aload_n hx hb dX10_addObject_20 rfl (lv_at hl 0 rfl) ?_
  refine lv_dup hx hb dX10_addObject_21 rfl ?_
  refine xgT_W_objects (v := (i 111)) rfl hx hb hts (fun _ h => List.mem_cons_of_mem _ (List.mem_append_right _ h)) hown hK hP (hts (.fieldLink RX10 37 "TalePlay$World" "objects" "I") (List.mem_cons_of_mem _ (List.mem_append_left _ (List.mem_of_getElem? (i := 1) rfl)))) dX10_addObject_22 ?_
  refine lv_dup_x1 hx hb dX10_addObject_25 rfl rfl ?_
  refine lv_iconst (v := 1) hx hb dX10_addObject_26 (by decide) ?_
  refine lv_iadd hx hb dX10_addObject_27 ?_
  refine lv_topi (fun x1 ex1 => ?_)
  have tx1 := ti_add (a := (i 111).toInt) (b := 1) ex1 rfl (by decide) (by omega) (by omega)
  refine xpT_W_objects hx hb hts (fun _ h => List.mem_cons_of_mem _ (List.mem_append_right _ h)) hown hK hP hD hS (hts (.fieldLink RX10 37 "TalePlay$World" "objects" "I") (List.mem_cons_of_mem _ (List.mem_append_left _ (List.mem_of_getElem? (i := 1) rfl)))) rfl rfl dX10_addObject_28 (fun H locs hP hD hS => ?_)
  have hI := xInv_i hI (k := 111) (v := x1) (show 0 ≤ (x1 : Int32).toInt ∧ (x1 : Int32).toInt ≤ 30 from by have h9 : x1.toInt = ((i 111).toInt + 1) := tx1; omega)
  have hfi : ∀ k, k ∉ ([111] : List Nat) → (upd i 111 x1) k = i k := fr_iz hfi (by decide) (by decide)
  exact rw_iret ((upd i 111 x1), q, (updA (updA c 108 ((i 111) : Int32).toNatClampNeg k1) 109 ((i 111) : Int32).toNatClampNeg s1), d) hx hb hr hlocks hS (hK.sub (tys' := []) [] rfl) hP hD dX10_addObject_31 ⟨(show (i 111).toInt = (i 111).toInt from by omega), hI, fr_w hfi (by decide), fr_w hfc (by decide), (show (x1 : Int32).toInt = (i 111).toInt + 1 from by have h50 : x1.toInt = ((i 111).toInt + 1) := tx1; omega)⟩

def wm_X11_make_e : List Cond := .code yX11_make cX11_make 3 (some .int) :: ((([.fieldLink RX11 10 "TalePlay" "world" "LTalePlay$World;", .methodLink RX11 80 yX10_hasKind, .instanceMethod yX10_hasKind, .selects RX10 yX10_hasKind yX10_hasKind, .initialized RX10, .code yX10_hasKind cX10_hasKind 2 (some .boolean), .fieldLink RX10 33 "TalePlay$World" "kinds" "I", .fieldLink RX11 102 "TalePlay$World" "objects" "I", .fieldLink RX11 46 "TalePlay" "tale" "LTalePlay$Tale;", .methodLink RX11 95 yX9_end, .instanceMethod yX9_end, .selects RX9 yX9_end yX9_end, .initialized RX9, .code yX9_end cX9_end 1 none, .fieldLink RX9 72 "TalePlay$Tale" "there" "Z", .fieldLink RX9 77 "TalePlay$Tale" "turns" "I"] : List Cond) ++ ([.methodLink RX11 105 yX10_addObject, .instanceMethod yX10_addObject, .selects RX10 yX10_addObject yX10_addObject, .code yX10_addObject cX10_addObject 3 (some .int), .fieldLink RX10 21 "TalePlay$World" "kindOf" "[I", .fieldLink RX10 37 "TalePlay$World" "objects" "I", .fieldLink RX10 24 "TalePlay$World" "sizeOf" "[I"] : List Cond)) ++ wsX110 ++ wsX100 ++ wsX90)
set_option maxRecDepth 20000 in
theorem gm_X11_make_e_X10_hasKind_80 : GoodIn wm_X11_make_e (wsV RX11 80 RX10 yX10_hasKind wm_X10_hasKind) := goodIn_w (List.forall_mem_append.mpr ⟨List.forall_mem_cons.mpr ⟨List.mem_cons_of_mem _ (List.mem_append_left _ (List.mem_append_left _ (List.mem_append_left _ (List.mem_append_left _ (List.mem_of_getElem? (i := 1) rfl))))), List.forall_mem_cons.mpr ⟨List.mem_cons_of_mem _ (List.mem_append_left _ (List.mem_append_left _ (List.mem_append_left _ (List.mem_append_left _ (List.mem_of_getElem? (i := 2) rfl))))), List.forall_mem_cons.mpr ⟨List.mem_cons_of_mem _ (List.mem_append_left _ (List.mem_append_left _ (List.mem_append_left _ (List.mem_append_left _ (List.mem_of_getElem? (i := 3) rfl))))), List.forall_mem_cons.mpr ⟨List.mem_cons_of_mem _ (List.mem_append_left _ (List.mem_append_left _ (List.mem_append_left _ (List.mem_append_left _ (List.mem_of_getElem? (i := 4) rfl))))), (fun _ h => absurd h List.not_mem_nil)⟩⟩⟩⟩, List.forall_mem_cons.mpr ⟨List.mem_cons_of_mem _ (List.mem_append_left _ (List.mem_append_left _ (List.mem_append_left _ (List.mem_append_left _ (List.mem_of_getElem? (i := 5) rfl))))), List.forall_mem_append.mpr ⟨List.forall_mem_cons.mpr ⟨List.mem_cons_of_mem _ (List.mem_append_left _ (List.mem_append_left _ (List.mem_append_left _ (List.mem_append_left _ (List.mem_of_getElem? (i := 6) rfl))))), (fun _ h => absurd h List.not_mem_nil)⟩, (fun _ h => List.mem_cons_of_mem _ (List.mem_append_left _ (List.mem_append_right _ h)))⟩⟩⟩) (by decide +kernel)
set_option maxRecDepth 20000 in
theorem gm_X11_make_e_X9_end_95 : GoodIn wm_X11_make_e (wsV RX11 95 RX9 yX9_end wm_X9_end) := goodIn_w (List.forall_mem_append.mpr ⟨List.forall_mem_cons.mpr ⟨List.mem_cons_of_mem _ (List.mem_append_left _ (List.mem_append_left _ (List.mem_append_left _ (List.mem_append_left _ (List.mem_of_getElem? (i := 9) rfl))))), List.forall_mem_cons.mpr ⟨List.mem_cons_of_mem _ (List.mem_append_left _ (List.mem_append_left _ (List.mem_append_left _ (List.mem_append_left _ (List.mem_of_getElem? (i := 10) rfl))))), List.forall_mem_cons.mpr ⟨List.mem_cons_of_mem _ (List.mem_append_left _ (List.mem_append_left _ (List.mem_append_left _ (List.mem_append_left _ (List.mem_of_getElem? (i := 11) rfl))))), List.forall_mem_cons.mpr ⟨List.mem_cons_of_mem _ (List.mem_append_left _ (List.mem_append_left _ (List.mem_append_left _ (List.mem_append_left _ (List.mem_of_getElem? (i := 12) rfl))))), (fun _ h => absurd h List.not_mem_nil)⟩⟩⟩⟩, List.forall_mem_cons.mpr ⟨List.mem_cons_of_mem _ (List.mem_append_left _ (List.mem_append_left _ (List.mem_append_left _ (List.mem_append_left _ (List.mem_of_getElem? (i := 13) rfl))))), List.forall_mem_append.mpr ⟨List.forall_mem_cons.mpr ⟨List.mem_cons_of_mem _ (List.mem_append_left _ (List.mem_append_left _ (List.mem_append_left _ (List.mem_append_left _ (List.mem_of_getElem? (i := 14) rfl))))), List.forall_mem_cons.mpr ⟨List.mem_cons_of_mem _ (List.mem_append_left _ (List.mem_append_left _ (List.mem_append_left _ (List.mem_append_left _ (List.mem_of_getElem? (i := 15) rfl))))), (fun _ h => absurd h List.not_mem_nil)⟩⟩, (fun _ h => List.mem_cons_of_mem _ (List.mem_append_right _ h))⟩⟩⟩) (by decide +kernel)
set_option maxRecDepth 20000 in
theorem gm_X11_make_e_X10_addObject_e_105 : GoodIn wm_X11_make_e (wsV RX11 105 RX10 yX10_addObject wm_X10_addObject_e) := goodIn_w (List.forall_mem_append.mpr ⟨List.forall_mem_cons.mpr ⟨List.mem_cons_of_mem _ (List.mem_append_left _ (List.mem_append_left _ (List.mem_append_left _ (List.mem_append_right _ (List.mem_of_getElem? (i := 0) rfl))))), List.forall_mem_cons.mpr ⟨List.mem_cons_of_mem _ (List.mem_append_left _ (List.mem_append_left _ (List.mem_append_left _ (List.mem_append_right _ (List.mem_of_getElem? (i := 1) rfl))))), List.forall_mem_cons.mpr ⟨List.mem_cons_of_mem _ (List.mem_append_left _ (List.mem_append_left _ (List.mem_append_left _ (List.mem_append_right _ (List.mem_of_getElem? (i := 2) rfl))))), List.forall_mem_cons.mpr ⟨List.mem_cons_of_mem _ (List.mem_append_left _ (List.mem_append_left _ (List.mem_append_left _ (List.mem_append_left _ (List.mem_of_getElem? (i := 4) rfl))))), (fun _ h => absurd h List.not_mem_nil)⟩⟩⟩⟩, List.forall_mem_cons.mpr ⟨List.mem_cons_of_mem _ (List.mem_append_left _ (List.mem_append_left _ (List.mem_append_left _ (List.mem_append_right _ (List.mem_of_getElem? (i := 3) rfl))))), List.forall_mem_append.mpr ⟨List.forall_mem_cons.mpr ⟨List.mem_cons_of_mem _ (List.mem_append_left _ (List.mem_append_left _ (List.mem_append_left _ (List.mem_append_right _ (List.mem_of_getElem? (i := 4) rfl))))), List.forall_mem_cons.mpr ⟨List.mem_cons_of_mem _ (List.mem_append_left _ (List.mem_append_left _ (List.mem_append_left _ (List.mem_append_right _ (List.mem_of_getElem? (i := 5) rfl))))), List.forall_mem_cons.mpr ⟨List.mem_cons_of_mem _ (List.mem_append_left _ (List.mem_append_left _ (List.mem_append_left _ (List.mem_append_right _ (List.mem_of_getElem? (i := 6) rfl))))), (fun _ h => absurd h List.not_mem_nil)⟩⟩⟩, (fun _ h => List.mem_cons_of_mem _ (List.mem_append_left _ (List.mem_append_right _ h)))⟩⟩⟩) (by decide +kernel)
set_option maxHeartbeats 4000000 in
set_option maxRecDepth 100000 in
theorem x_X11_make_e (l : Launch) (D : va_G) (sz : Nat) (sk : Value) (a : Nat → Nat) (t : Nat → ClassId) (i : Nat → Int32) (q : Int64) (c : Nat → Nat → Int32) (d : Nat → Nat → Int64) (k1 : Int32) (s1 : Int32) (hI : xInv i c) : Met l yX11_make wm_X11_make_e ({ frames := 1, cells := 0, slots := 0, locals := 22 }) (va_Pc [.ref (a 100), .int k1, .int s1] (yB (a 186) D sz (xwT sk a t i q c d) (xtT t))) (va_Qi (fun (r : Int32) (u : MS) => True ∧ xInv u.1 u.2.2.1 ∧ (∀ k, k ∉ ([111, 146, 148] : List Nat) → u.1 k = i k) ∧ (∀ k, k ∉ ([108, 109] : List Nat) → u.2.2.1 k = c k) ∧ (xEn (i 146) (i 148) (u.1 146) (u.1 148)) ∧ ((¬ (0 ≤ k1.toInt ∧ k1.toInt < (i 110).toInt ∧ 0 ≤ s1.toInt ∧ s1.toInt ≤ 99) ∧ r.toInt = -1 ∧ (u.1 111).toInt = (i 111).toInt) ∨ (0 ≤ k1.toInt ∧ k1.toInt < (i 110).toInt ∧ 0 ≤ s1.toInt ∧ s1.toInt ≤ 99 ∧ 30 ≤ (i 111).toInt ∧ r.toInt = -2 ∧ (u.1 111).toInt = (i 111).toInt) ∨ (0 ≤ k1.toInt ∧ k1.toInt < (i 110).toInt ∧ 0 ≤ s1.toInt ∧ s1.toInt ≤ 99 ∧ (i 111).toInt ≤ 29 ∧ r.toInt = (i 111).toInt ∧ (u.1 111).toInt = (i 111).toInt + 1))) (oC D (va_A (xwT sk a t i q c d) sz) (fun u : MS => xwT sk a t u.1 u.2.1 u.2.2.1 u.2.2.2) (fun _ => [])) (va_A (xwT sk a t i q c d) sz)) 0 0 (va_A (xwT sk a t i q c d) sz) := by
  refine Met.ofW (cc := cX11_make) (maxL := 3) (ret := (some .int)) (by decide) rfl ?_
  intro p e s m args below meth cd s₁ B hml hv
  obtain ⟨rfl, ⟨hsz, hP, hK, hD0⟩, hN, hZ, hBW⟩ := hv
  have hx := B.exec
  have hb := B.bytes
  have hr := B.returns
  have hts := atoms_spec (ws := wm_X11_make_e) B.pre
  have hown : s.vm.findClass RX11 = some m.cls := findClass_of_methodNamed B.named
  have hlocks := B.notSynchronized
  subst hsz
  have hD := hD0.self (sz := s.heap.size)
  have hZ := xZ_A hZ hP hBW
  generalize hAe : va_A (xwT sk a t i q c d) s.heap.size = A at hD hZ ⊢
  have hA : ∀ q : Nat, s.heap.size ≤ q → A q := fun q h => by rw [← hAe]; exact Or.inr h
  have hS : va_S A s.heap s.heap [] := va_S.rf
  have hfi : ∀ k, k ∉ ([] : List Nat) → i k = i k := fun _ _ => rfl
  have hfc : ∀ k, k ∉ ([] : List Nat) → c k = c k := fun _ _ => rfl
  have hl := lv_entry ([.ref (a 100), .int k1, .int s1]) (n := 3) (Nat.le_of_ble_eq_true rfl)
  rw [lg_entry_eq]
  generalize (lg_sl ([.ref (a 100), .int k1, .int s1]) ++ List.replicate (3 - (lg_sl ([.ref (a 100), .int k1, .int s1])).length) Slot.unset).toArray = ls at hl ⊢
  have hl : lv_has ls 3 [(0, .ref (a 100)), (1, .int k1), (2, .int s1)] := hl
  have rb110_i : 6 ≤ (i 110).toInt ∧ (i 110).toInt ≤ 24 := hI.1 110
  have rb111_i : 0 ≤ (i 111).toInt ∧ (i 111).toInt ≤ 30 := hI.1 111
  refine lv_aload_n hx hb dX11_make_0 rfl (lv_at hl 0 rfl) ?_
  refine xgT_X_world hx hb hts (fun _ h => List.mem_cons_of_mem _ (List.mem_append_left _ (List.mem_append_left _ (List.mem_append_right _ h)))) hown hK hP (hts (.fieldLink RX11 10 "TalePlay" "world" "LTalePlay$World;") (List.mem_cons_of_mem _ (List.mem_append_left _ (List.mem_append_left _ (List.mem_append_left _ (List.mem_append_left _ (List.mem_of_getElem? (i := 0) rfl))))))) dX11_make_1 ?_
  refine lv_iload_n hx hb dX11_make_4 rfl (lv_at hl 1 rfl) ?_
  refine ro_calli (va_runV (As := [.int k1]) (rest := []) ⟨hx, hb, hml, hown, hts⟩ (x_X10_hasKind l D s.heap.size .null a t i q c d k1 hI ) (cwV 1 hts gm_X11_make_e_X10_hasKind_80 rfl rfl rfl (by decide +kernel) ⟨Nat.le_of_ble_eq_true rfl, Nat.le_of_ble_eq_true rfl⟩) (yA_V hN (xZ_k hZ hS hA) (xkT_W hK) (xuT_W (sk := sk) hP) (ci := 10) (q0 := 0) rfl rfl) rfl rfl hl.1 rfl (lv_room (Nat.le_of_ble_eq_true rfl)) dX11_make_5 ⟨Nat.le_of_ble_eq_true rfl, Nat.le_of_ble_eq_true rfl⟩) hS hA hP (fun r1 u1 H locs hw1 hP hS => ?_)
  have hw1 : r1 = if (0 ≤ k1.toInt ∧ k1.toInt < (i 110).toInt) then 1 else 0 := hw1
  refine lv_if_eq (tgt := 21) hx hb dX11_make_8 (by decide) (fun c2 => ?_) (fun c2 => ?_)
  · have f2 := fl_f hw1 c2
    refine lv_iconst (v := (-1)) hx hb dX11_make_21 (by decide) ?_
    exact rw_iret (i, q, c, d) hx hb hr hlocks hS (hK.sub (tys' := []) [] rfl) hP hD dX11_make_22 ⟨trivial, hI, fr_w hfi (by decide), fr_w hfc (by decide), (show xEn (i 146) (i 148) ((i 146) : Int32) ((i 148) : Int32) from Or.inr ⟨rfl, rfl⟩), (show (¬ (0 ≤ k1.toInt ∧ k1.toInt < (i 110).toInt ∧ 0 ≤ s1.toInt ∧ s1.toInt ≤ 99) ∧ ((-1) : Int32).toInt = -1 ∧ ((i 111) : Int32).toInt = (i 111).toInt) ∨ (0 ≤ k1.toInt ∧ k1.toInt < (i 110).toInt ∧ 0 ≤ s1.toInt ∧ s1.toInt ≤ 99 ∧ 30 ≤ (i 111).toInt ∧ ((-1) : Int32).toInt = -2 ∧ ((i 111) : Int32).toInt = (i 111).toInt) ∨ (0 ≤ k1.toInt ∧ k1.toInt < (i 110).toInt ∧ 0 ≤ s1.toInt ∧ s1.toInt ≤ 99 ∧ (i 111).toInt ≤ 29 ∧ ((-1) : Int32).toInt = (i 111).toInt ∧ ((i 111) : Int32).toInt = (i 111).toInt + 1) from by have h53 : ((-1) : Int32).toInt = -1 := (by decide); omega)⟩
  · have f2 := fl_t hw1 c2
    refine lv_iload_n hx hb dX11_make_11 rfl (lv_at hl 2 rfl) ?_
    refine lv_if_lt (tgt := 21) hx hb dX11_make_12 (by decide) (fun c3 => ?_) (fun c3 => ?_)
    · have f3 := (ti_lt (a := s1.toInt) (b := 0) rfl (by decide)).mp c3
      refine lv_iconst (v := (-1)) hx hb dX11_make_21 (by decide) ?_
      exact rw_iret (i, q, c, d) hx hb hr hlocks hS (hK.sub (tys' := []) [] rfl) hP hD dX11_make_22 ⟨trivial, hI, fr_w hfi (by decide), fr_w hfc (by decide), (show xEn (i 146) (i 148) ((i 146) : Int32) ((i 148) : Int32) from Or.inr ⟨rfl, rfl⟩), (show (¬ (0 ≤ k1.toInt ∧ k1.toInt < (i 110).toInt ∧ 0 ≤ s1.toInt ∧ s1.toInt ≤ 99) ∧ ((-1) : Int32).toInt = -1 ∧ ((i 111) : Int32).toInt = (i 111).toInt) ∨ (0 ≤ k1.toInt ∧ k1.toInt < (i 110).toInt ∧ 0 ≤ s1.toInt ∧ s1.toInt ≤ 99 ∧ 30 ≤ (i 111).toInt ∧ ((-1) : Int32).toInt = -2 ∧ ((i 111) : Int32).toInt = (i 111).toInt) ∨ (0 ≤ k1.toInt ∧ k1.toInt < (i 110).toInt ∧ 0 ≤ s1.toInt ∧ s1.toInt ≤ 99 ∧ (i 111).toInt ≤ 29 ∧ ((-1) : Int32).toInt = (i 111).toInt ∧ ((i 111) : Int32).toInt = (i 111).toInt + 1) from by have h53 : ((-1) : Int32).toInt = -1 := (by decide); omega)⟩
    · have f3 := mt (ti_lt (a := s1.toInt) (b := 0) rfl (by decide)).mpr c3
      refine lv_iload_n hx hb dX11_make_15 rfl (lv_at hl 2 rfl) ?_
      refine lv_bipush (v := 99) hx hb dX11_make_16 (by decide) ?_
      refine lv_icmp_le (tgt := 23) hx hb dX11_make_18 (by decide) (fun c4 => ?_) (fun c4 => ?_)
      · have f4 := (ti_le (a := s1.toInt) (b := 99) rfl (by decide)).mp c4
        refine lv_aload_n hx hb dX11_make_23 rfl (lv_at hl 0 rfl) ?_
        refine xgT_X_world hx hb hts (fun _ h => List.mem_cons_of_mem _ (List.mem_append_left _ (List.mem_append_left _ (List.mem_append_right _ h)))) hown hK hP (hts (.fieldLink RX11 10 "TalePlay" "world" "LTalePlay$World;") (List.mem_cons_of_mem _ (List.mem_append_left _ (List.mem_append_left _ (List.mem_append_left _ (List.mem_append_left _ (List.mem_of_getElem? (i := 0) rfl))))))) dX11_make_24 ?_
        refine xgT_W_objects (v := (i 111)) rfl hx hb hts (fun _ h => List.mem_cons_of_mem _ (List.mem_append_left _ (List.mem_append_right _ h))) hown hK hP (hts (.fieldLink RX11 102 "TalePlay$World" "objects" "I") (List.mem_cons_of_mem _ (List.mem_append_left _ (List.mem_append_left _ (List.mem_append_left _ (List.mem_append_left _ (List.mem_of_getElem? (i := 7) rfl))))))) dX11_make_27 ?_
        refine lv_bipush (v := 30) hx hb dX11_make_30 (by decide) ?_
        refine lv_icmp_lt (tgt := 38) hx hb dX11_make_32 (by decide) (fun c5 => ?_) (fun c5 => ?_)
        · have f5 := (ti_lt (a := (i 111).toInt) (b := 30) rfl (by decide)).mp c5
          refine lv_aload_n hx hb dX11_make_38 rfl (lv_at hl 0 rfl) ?_
          refine xgT_X_tale hx hb hts (fun _ h => List.mem_cons_of_mem _ (List.mem_append_left _ (List.mem_append_left _ (List.mem_append_right _ h)))) hown hK hP (hts (.fieldLink RX11 46 "TalePlay" "tale" "LTalePlay$Tale;") (List.mem_cons_of_mem _ (List.mem_append_left _ (List.mem_append_left _ (List.mem_append_left _ (List.mem_append_left _ (List.mem_of_getElem? (i := 8) rfl))))))) dX11_make_39 ?_
          refine al_callv (va_runV (As := []) (rest := []) ⟨hx, hb, hml, hown, hts⟩ (x_X9_end l D H.size sk a t i q c d  hI ) (cwV 0 hts gm_X11_make_e_X9_end_95 rfl rfl rfl (by decide +kernel) ⟨Nat.le_of_ble_eq_true rfl, Nat.le_of_ble_eq_true rfl⟩) (yB_V hN (xZ_k hZ hS hA) (xZ_n hZ hD) hK hP hD (ci := 9) (q0 := 33) rfl rfl) rfl rfl hl.1 rfl (lv_room (Nat.le_of_ble_eq_true rfl)) dX11_make_42 ⟨Nat.le_of_ble_eq_true rfl, Nat.le_of_ble_eq_true rfl⟩) hS hA hP hD (fun u6 H locs hw6 hP hD hS => ?_)
          obtain ⟨i6, q6, c6, d6⟩ := u6
          have hw6 : True ∧ xInv i6 c6 ∧ (∀ k, k ∉ ([146, 148] : List Nat) → i6 k = i k) ∧ (∀ k, k ∉ ([] : List Nat) → c6 k = c k) ∧ ((i6 146).toInt = 0) ∧ ((i6 148).toInt = 0) := hw6
          obtain ⟨hw6, hI, hei6, hec6, hxp6_0, hxp6_1⟩ := hw6
          have hxp6_0 : (i6 146).toInt = 0 := hxp6_0
          have hxp6_1 : (i6 148).toInt = 0 := hxp6_1
          have hfi : ∀ k, k ∉ ([146, 148] : List Nat) → i6 k = i k := fr_z hfi hei6 (by decide) (by decide)
          have hfc : ∀ k, k ∉ ([] : List Nat) → c6 k = c k := fr_z hfc hec6 (by decide) (by decide)
          have hen : (i6 146).toInt = 0 := hxp6_0
          refine lv_aload_n hx hb dX11_make_45 rfl (lv_at hl 0 rfl) ?_
          refine xgT_X_world hx hb hts (fun _ h => List.mem_cons_of_mem _ (List.mem_append_left _ (List.mem_append_left _ (List.mem_append_right _ h)))) hown hK hP (hts (.fieldLink RX11 10 "TalePlay" "world" "LTalePlay$World;") (List.mem_cons_of_mem _ (List.mem_append_left _ (List.mem_append_left _ (List.mem_append_left _ (List.mem_append_left _ (List.mem_of_getElem? (i := 0) rfl))))))) dX11_make_46 ?_
          refine lv_iload_n hx hb dX11_make_49 rfl (lv_at hl 1 rfl) ?_
          refine lv_iload_n hx hb dX11_make_50 rfl (lv_at hl 2 rfl) ?_
          have rb111_i6 : 0 ≤ (i6 111).toInt ∧ (i6 111).toInt ≤ 30 := hI.1 111
          have re111_i6 : (i6 111).toInt = (i 111).toInt := congrArg Int32.toInt (hfi 111 (by decide))
          refine al_calli (va_runV (As := [.int k1, .int s1]) (rest := []) ⟨hx, hb, hml, hown, hts⟩ (x_X10_addObject_e l D H.size sk a t i6 q6 c6 d6 k1 s1 hI (show 0 ≤ k1.toInt ∧ k1.toInt ≤ 23 from by omega) (show 0 ≤ s1.toInt ∧ s1.toInt ≤ 99 from by omega) (show ((i6 111) : Int32).toInt ≤ 29 from by omega)) (cwV 2 hts gm_X11_make_e_X10_addObject_e_105 rfl rfl rfl (by decide +kernel) ⟨Nat.le_of_ble_eq_true rfl, Nat.le_of_ble_eq_true rfl⟩) (yB_V hN (xZ_k hZ hS hA) (xZ_n hZ hD) hK hP hD (ci := 10) (q0 := 2) rfl rfl) rfl rfl hl.1 rfl (lv_room (Nat.le_of_ble_eq_true rfl)) dX11_make_51 ⟨Nat.le_of_ble_eq_true rfl, Nat.le_of_ble_eq_true rfl⟩) hS hA hP hD (fun r7 u7 H locs hw7 hP hD hS => ?_)
          obtain ⟨i7, q7, c7, d7⟩ := u7
          have hw7 : (r7.toInt = (i6 111).toInt) ∧ xInv i7 c7 ∧ (∀ k, k ∉ ([111] : List Nat) → i7 k = i6 k) ∧ (∀ k, k ∉ ([108, 109] : List Nat) → c7 k = c6 k) ∧ ((i7 111).toInt = (i6 111).toInt + 1) := hw7
          obtain ⟨hw7, hI, hei7, hec7, hxp7_0⟩ := hw7
          have hxp7_0 : (i7 111).toInt = (i 111).toInt + 1 := by have h9 := hxp7_0; rw [show i6 111 = i 111 from hfi 111 (by decide)] at h9; exact h9
          have hfi : ∀ k, k ∉ ([111, 146, 148] : List Nat) → i7 k = i k := fr_z hfi hei7 (by decide) (by decide)
          have hfc : ∀ k, k ∉ ([108, 109] : List Nat) → c7 k = c k := fr_z hfc hec7 (by decide) (by decide)
          have hen : ((i7 146) : Int32).toInt = 0 := by rw [show i7 146 = i6 146 from hei7 146 (by decide)]; exact hen
          exact rw_iret (i7, q7, c7, d7) hx hb hr hlocks hS (hK.sub (tys' := []) [] rfl) hP hD dX11_make_54 ⟨trivial, hI, fr_w hfi (by decide), fr_w hfc (by decide), (show xEn (i 146) (i 148) ((i7 146) : Int32) ((i7 148) : Int32) from Or.inl hen), (show (¬ (0 ≤ k1.toInt ∧ k1.toInt < (i 110).toInt ∧ 0 ≤ s1.toInt ∧ s1.toInt ≤ 99) ∧ (r7 : Int32).toInt = -1 ∧ ((i7 111) : Int32).toInt = (i 111).toInt) ∨ (0 ≤ k1.toInt ∧ k1.toInt < (i 110).toInt ∧ 0 ≤ s1.toInt ∧ s1.toInt ≤ 99 ∧ 30 ≤ (i 111).toInt ∧ (r7 : Int32).toInt = -2 ∧ ((i7 111) : Int32).toInt = (i 111).toInt) ∨ (0 ≤ k1.toInt ∧ k1.toInt < (i 110).toInt ∧ 0 ≤ s1.toInt ∧ s1.toInt ≤ 99 ∧ (i 111).toInt ≤ 29 ∧ (r7 : Int32).toInt = (i 111).toInt ∧ ((i7 111) : Int32).toInt = (i 111).toInt + 1) from by omega)⟩
        · have f5 := mt (ti_lt (a := (i 111).toInt) (b := 30) rfl (by decide)).mpr c5
          refine lv_bipush (v := (-2)) hx hb dX11_make_35 (by decide) ?_
          exact rw_iret (i, q, c, d) hx hb hr hlocks hS (hK.sub (tys' := []) [] rfl) hP hD dX11_make_37 ⟨trivial, hI, fr_w hfi (by decide), fr_w hfc (by decide), (show xEn (i 146) (i 148) ((i 146) : Int32) ((i 148) : Int32) from Or.inr ⟨rfl, rfl⟩), (show (¬ (0 ≤ k1.toInt ∧ k1.toInt < (i 110).toInt ∧ 0 ≤ s1.toInt ∧ s1.toInt ≤ 99) ∧ ((-2) : Int32).toInt = -1 ∧ ((i 111) : Int32).toInt = (i 111).toInt) ∨ (0 ≤ k1.toInt ∧ k1.toInt < (i 110).toInt ∧ 0 ≤ s1.toInt ∧ s1.toInt ≤ 99 ∧ 30 ≤ (i 111).toInt ∧ ((-2) : Int32).toInt = -2 ∧ ((i 111) : Int32).toInt = (i 111).toInt) ∨ (0 ≤ k1.toInt ∧ k1.toInt < (i 110).toInt ∧ 0 ≤ s1.toInt ∧ s1.toInt ≤ 99 ∧ (i 111).toInt ≤ 29 ∧ ((-2) : Int32).toInt = (i 111).toInt ∧ ((i 111) : Int32).toInt = (i 111).toInt + 1) from by have h53 : ((-2) : Int32).toInt = -2 := (by decide); omega)⟩
      · have f4 := mt (ti_le (a := s1.toInt) (b := 99) rfl (by decide)).mpr c4
        refine lv_iconst (v := (-1)) hx hb dX11_make_21 (by decide) ?_
        exact rw_iret (i, q, c, d) hx hb hr hlocks hS (hK.sub (tys' := []) [] rfl) hP hD dX11_make_22 ⟨trivial, hI, fr_w hfi (by decide), fr_w hfc (by decide), (show xEn (i 146) (i 148) ((i 146) : Int32) ((i 148) : Int32) from Or.inr ⟨rfl, rfl⟩), (show (¬ (0 ≤ k1.toInt ∧ k1.toInt < (i 110).toInt ∧ 0 ≤ s1.toInt ∧ s1.toInt ≤ 99) ∧ ((-1) : Int32).toInt = -1 ∧ ((i 111) : Int32).toInt = (i 111).toInt) ∨ (0 ≤ k1.toInt ∧ k1.toInt < (i 110).toInt ∧ 0 ≤ s1.toInt ∧ s1.toInt ≤ 99 ∧ 30 ≤ (i 111).toInt ∧ ((-1) : Int32).toInt = -2 ∧ ((i 111) : Int32).toInt = (i 111).toInt) ∨ (0 ≤ k1.toInt ∧ k1.toInt < (i 110).toInt ∧ 0 ≤ s1.toInt ∧ s1.toInt ≤ 99 ∧ (i 111).toInt ≤ 29 ∧ ((-1) : Int32).toInt = (i 111).toInt ∧ ((i 111) : Int32).toInt = (i 111).toInt + 1) from by have h53 : ((-1) : Int32).toInt = -1 := (by decide); omega)⟩

set_option maxHeartbeats 4000000 in
set_option maxRecDepth 100000 in
theorem s_X12_make_e (l : Launch) (D : va_G) (sz : Nat) (o : Nat) (a : Nat → Nat) (t : Nat → ClassId) (i : Nat → Int32) (q : Int64) (c : Nat → Nat → Int32) (d : Nat → Nat → Int64) (k1 : Int32) (s1 : Int32) (hI : mInv i c) (hs_S : SJ (c 3) (c 6) (c 9) (c 10) (c 11) (c 13) (i 2).toInt (i 5).toInt (i 8).toInt) (hs_J : TJ (c 3) (c 6) (c 23) (c 24) (c 29) (c 30) (i 5).toInt (i 22).toInt (i 27).toInt) : Met l yX12_make wm_X12_make ({ frames := 1, cells := 0, slots := 0, locals := 25 }) (va_Pc [.ref o, .int k1, .int s1] (pB D sz (mW o a t i q c d) (mT t))) (va_Qi (fun (r : Int32) (u : MS) => True ∧ mInv u.1 u.2.2.1 ∧ (∀ k, k ∉ ([5, 22, 27] : List Nat) → u.1 k = i k) ∧ (∀ k, k ∉ ([6, 7] : List Nat) → u.2.2.1 k = c k) ∧ (SJ (u.2.2.1 3) (u.2.2.1 6) (u.2.2.1 9) (u.2.2.1 10) (u.2.2.1 11) (u.2.2.1 13) (u.1 2).toInt (u.1 5).toInt (u.1 8).toInt) ∧ (TJ (u.2.2.1 3) (u.2.2.1 6) (u.2.2.1 23) (u.2.2.1 24) (u.2.2.1 29) (u.2.2.1 30) (u.1 5).toInt (u.1 22).toInt (u.1 27).toInt) ∧ ((¬ (0 ≤ k1.toInt ∧ k1.toInt < (i 2).toInt ∧ 0 ≤ s1.toInt ∧ s1.toInt ≤ 99) ∧ r.toInt = -1 ∧ (u.1 5).toInt = (i 5).toInt) ∨ (0 ≤ k1.toInt ∧ k1.toInt < (i 2).toInt ∧ 0 ≤ s1.toInt ∧ s1.toInt ≤ 99 ∧ 30 ≤ (i 5).toInt ∧ r.toInt = -2 ∧ (u.1 5).toInt = (i 5).toInt) ∨ (0 ≤ k1.toInt ∧ k1.toInt < (i 2).toInt ∧ 0 ≤ s1.toInt ∧ s1.toInt ≤ 99 ∧ (i 5).toInt ≤ 29 ∧ r.toInt = (i 5).toInt ∧ (u.1 5).toInt = (i 5).toInt + 1))) (oC D (va_A (mW o a t i q c d) sz) (fun u : MS => mW o a t u.1 u.2.1 u.2.2.1 u.2.2.2) (fun _ => [])) (va_A (mW o a t i q c d) sz)) 0 0 (va_A (mW o a t i q c d) sz) := by
  refine Met.ofW (cc := cX12_make) (maxL := 3) (ret := (some .int)) (by decide) rfl ?_
  intro p e s m args below meth cd s₁ B hml hv
  obtain ⟨rfl, hsz, hP, hK, hD0⟩ := hv
  have hx := B.exec
  have hb := B.bytes
  have hr := B.returns
  have hts := atoms_spec (ws := wm_X12_make) B.pre
  have hown : s.vm.findClass RX12 = some m.cls := findClass_of_methodNamed B.named
  have hlocks := B.notSynchronized
  subst hsz
  have hD := hD0.self (sz := s.heap.size)
  generalize hAe : va_A (mW o a t i q c d) s.heap.size = A at hD ⊢
  have hA : ∀ q : Nat, s.heap.size ≤ q → A q := fun q h => by rw [← hAe]; exact Or.inr h
  have hS : va_S A s.heap s.heap [] := va_S.rf
  have hfi : ∀ k, k ∉ ([] : List Nat) → i k = i k := fun _ _ => rfl
  have hfc : ∀ k, k ∉ ([] : List Nat) → c k = c k := fun _ _ => rfl
  have hl := lv_entry ([.ref o, .int k1, .int s1]) (n := 3) (Nat.le_of_ble_eq_true rfl)
  rw [lg_entry_eq]
  generalize (lg_sl ([.ref o, .int k1, .int s1]) ++ List.replicate (3 - (lg_sl ([.ref o, .int k1, .int s1])).length) Slot.unset).toArray = ls at hl ⊢
  have hl : lv_has ls 3 [(0, .ref o), (1, .int k1), (2, .int s1)] := hl
  have hI0 := hI
  have rb2_i : 6 ≤ (i 2).toInt ∧ (i 2).toInt ≤ 24 := hI.1 2
  have rb5_i : 0 ≤ (i 5).toInt ∧ (i 5).toInt ≤ 30 := hI.1 5
  refine lv_iload_n hx hb dX12_make_0 rfl (lv_at hl 1 rfl) ?_
  refine lv_i2l (v := k1.toInt64) hx hb dX12_make_1 rfl ?_
  refine lv_lconst (v := 0) hx hb dX12_make_2 (by decide) ?_
  refine lv_aload_n hx hb dX12_make_3 rfl (lv_at hl 0 rfl) ?_
  refine mget_2 (v := (i 2)) rfl hx hb hts (fun _ h => List.mem_cons_of_mem _ (List.mem_append_right _ h)) hown hK hP (hts (.fieldLink RX12 151 "TalePlayModel" "kinds" "I") (List.mem_cons_of_mem _ (List.mem_append_left _ (List.mem_of_getElem? (i := 0) rfl)))) dX12_make_4 ?_
  refine lv_iconst (v := 1) hx hb dX12_make_7 (by decide) ?_
  refine lv_isub hx hb dX12_make_8 ?_
  refine lv_topi (fun x1 ex1 => ?_)
  have tx1 := ti_sub (a := (i 2).toInt) (b := 1) ex1 rfl (by decide) (by omega) (by omega)
  refine lv_i2l (v := x1.toInt64) hx hb dX12_make_9 rfl ?_
  have hPc := hP.sub (ws' := []) [] rfl
  have hKc := hK.sub (tys' := []) [] rfl
  refine ro_calli (va_runS (As := [.long k1.toInt64, .long 0, .long x1.toInt64]) (rest := []) ⟨hx, hb, hml, hown, hts⟩ (c_X12_in l D s.heap.size k1.toInt64 0 x1.toInt64 k1.toInt 0 ((i 2).toInt - 1) ((Int32.toInt_toInt64 k1).trans rfl) (by decide) ((Int32.toInt_toInt64 x1).trans tx1)) (va_cwS 3 hts gm_X12_make_X12_in rfl rfl rfl (by decide +kernel) ⟨Nat.le_of_ble_eq_true rfl, Nat.le_of_ble_eq_true rfl⟩) (pA_S hKc hPc) rfl rfl hl.1 rfl (lv_room (Nat.le_of_ble_eq_true rfl)) dX12_make_10 ⟨Nat.le_of_ble_eq_true rfl, Nat.le_of_ble_eq_true rfl⟩) hS hA hP (fun r2 u2 H locs hw2 hP hS => ?_)
  have hw2 : r2 = if (0 ≤ k1.toInt ∧ k1.toInt ≤ ((i 2).toInt - 1)) then 1 else 0 := hw2
  refine lv_if_eq (tgt := 28) hx hb dX12_make_13 (by decide) (fun c3 => ?_) (fun c3 => ?_)
  · have f3 := fl_f hw2 c3
    refine lv_iconst (v := (-1)) hx hb dX12_make_28 (by decide) ?_
    exact rw_iret (i, q, c, d) hx hb hr hlocks hS (hK.sub (tys' := []) [] rfl) hP hD dX12_make_29 ⟨trivial, hI, fr_w hfi (by decide), fr_w hfc (by decide), (show SJ (c 3) (c 6) (c 9) (c 10) (c 11) (c 13) ((i 2) : Int32).toInt ((i 5) : Int32).toInt ((i 8) : Int32).toInt from hs_S), (show TJ (c 3) (c 6) (c 23) (c 24) (c 29) (c 30) ((i 5) : Int32).toInt ((i 22) : Int32).toInt ((i 27) : Int32).toInt from hs_J), (show (¬ (0 ≤ k1.toInt ∧ k1.toInt < (i 2).toInt ∧ 0 ≤ s1.toInt ∧ s1.toInt ≤ 99) ∧ ((-1) : Int32).toInt = -1 ∧ ((i 5) : Int32).toInt = (i 5).toInt) ∨ (0 ≤ k1.toInt ∧ k1.toInt < (i 2).toInt ∧ 0 ≤ s1.toInt ∧ s1.toInt ≤ 99 ∧ 30 ≤ (i 5).toInt ∧ ((-1) : Int32).toInt = -2 ∧ ((i 5) : Int32).toInt = (i 5).toInt) ∨ (0 ≤ k1.toInt ∧ k1.toInt < (i 2).toInt ∧ 0 ≤ s1.toInt ∧ s1.toInt ≤ 99 ∧ (i 5).toInt ≤ 29 ∧ ((-1) : Int32).toInt = (i 5).toInt ∧ ((i 5) : Int32).toInt = (i 5).toInt + 1) from by have h53 : ((-1) : Int32).toInt = -1 := (by decide); omega)⟩
  · have f3 := fl_t hw2 c3
    refine lv_iload_n hx hb dX12_make_16 rfl (lv_at hl 2 rfl) ?_
    refine lv_i2l (v := s1.toInt64) hx hb dX12_make_17 rfl ?_
    refine lv_lconst (v := 0) hx hb dX12_make_18 (by decide) ?_
    refine lv_ldc2 (v := 99) hx hb hown (hts (.constantLong RX12 175 (99)) (List.mem_cons_of_mem _ (List.mem_append_left _ (List.mem_of_getElem? (i := 5) rfl)))) dX12_make_19 ?_
    have hPc := hP.sub (ws' := []) [] rfl
    have hKc := hK.sub (tys' := []) [] rfl
    refine ro_calli (va_runS (As := [.long s1.toInt64, .long 0, .long 99]) (rest := []) ⟨hx, hb, hml, hown, hts⟩ (c_X12_in l D H.size s1.toInt64 0 99 s1.toInt 0 99 ((Int32.toInt_toInt64 s1).trans rfl) (by decide) (by decide)) (va_cwS 3 hts gm_X12_make_X12_in rfl rfl rfl (by decide +kernel) ⟨Nat.le_of_ble_eq_true rfl, Nat.le_of_ble_eq_true rfl⟩) (pA_S hKc hPc) rfl rfl hl.1 rfl (lv_room (Nat.le_of_ble_eq_true rfl)) dX12_make_22 ⟨Nat.le_of_ble_eq_true rfl, Nat.le_of_ble_eq_true rfl⟩) hS hA hP (fun r4 u4 H locs hw4 hP hS => ?_)
    have hw4 : r4 = if (0 ≤ s1.toInt ∧ s1.toInt ≤ 99) then 1 else 0 := hw4
    refine lv_if_ne (tgt := 30) hx hb dX12_make_25 (by decide) (fun c5 => ?_) (fun c5 => ?_)
    · have f5 := fl_t hw4 c5
      refine lv_aload_n hx hb dX12_make_30 rfl (lv_at hl 0 rfl) ?_
      refine mget_5 (v := (i 5)) rfl hx hb hts (fun _ h => List.mem_cons_of_mem _ (List.mem_append_right _ h)) hown hK hP (hts (.fieldLink RX12 177 "TalePlayModel" "objects" "I") (List.mem_cons_of_mem _ (List.mem_append_left _ (List.mem_of_getElem? (i := 6) rfl)))) dX12_make_31 ?_
      refine lv_bipush (v := 30) hx hb dX12_make_34 (by decide) ?_
      refine lv_icmp_ne (tgt := 42) hx hb dX12_make_36 (by decide) (fun c6 => ?_) (fun c6 => ?_)
      · have f6 := mt (ti_eq (a := (i 5).toInt) (b := 30) rfl (by decide)).mpr c6
        refine lv_aload_n hx hb dX12_make_42 rfl (lv_at hl 0 rfl) ?_
        refine mget_6 hx hb hts (fun _ h => List.mem_cons_of_mem _ (List.mem_append_right _ h)) hown hK hP (hts (.fieldLink RX12 19 "TalePlayModel" "kindOf" "[I") (List.mem_cons_of_mem _ (List.mem_append_left _ (List.mem_of_getElem? (i := 7) rfl)))) dX12_make_43 ?_
        refine lv_aload_n hx hb dX12_make_46 rfl (lv_at hl 0 rfl) ?_
        refine mget_5 (v := (i 5)) rfl hx hb hts (fun _ h => List.mem_cons_of_mem _ (List.mem_append_right _ h)) hown hK hP (hts (.fieldLink RX12 177 "TalePlayModel" "objects" "I") (List.mem_cons_of_mem _ (List.mem_append_left _ (List.mem_of_getElem? (i := 6) rfl)))) dX12_make_47 ?_
        refine lv_iload_n hx hb dX12_make_50 rfl (lv_at hl 1 rfl) ?_
        refine mst_6 hx hb hK hP hD hS (vp_in_iff.mpr (by have h9 : (i 5).toInt = (i 5).toInt := rfl; omega)) dX12_make_51 (fun H locs hP hD hS => ?_)
        have hI := mInv_c hI (k := 6) (j := ((i 5) : Int32).toNatClampNeg) (x := k1) (show 0 ≤ (k1 : Int32).toInt ∧ (k1 : Int32).toInt ≤ 23 from by omega)
        have hfc : ∀ k, k ∉ ([6] : List Nat) → (updA c 6 ((i 5) : Int32).toNatClampNeg k1) k = c k := fr_cz hfc (by decide) (by decide)
        refine lv_aload_n hx hb dX12_make_52 rfl (lv_at hl 0 rfl) ?_
        refine mget_7 hx hb hts (fun _ h => List.mem_cons_of_mem _ (List.mem_append_right _ h)) hown hK hP (hts (.fieldLink RX12 22 "TalePlayModel" "sizeOf" "[I") (List.mem_cons_of_mem _ (List.mem_append_left _ (List.mem_of_getElem? (i := 8) rfl)))) dX12_make_53 ?_
        refine lv_aload_n hx hb dX12_make_56 rfl (lv_at hl 0 rfl) ?_
        refine mget_5 (v := (i 5)) rfl hx hb hts (fun _ h => List.mem_cons_of_mem _ (List.mem_append_right _ h)) hown hK hP (hts (.fieldLink RX12 177 "TalePlayModel" "objects" "I") (List.mem_cons_of_mem _ (List.mem_append_left _ (List.mem_of_getElem? (i := 6) rfl)))) dX12_make_57 ?_
        refine lv_iload_n hx hb dX12_make_60 rfl (lv_at hl 2 rfl) ?_
        refine mst_7 hx hb hK hP hD hS (vp_in_iff.mpr (by have h9 : (i 5).toInt = (i 5).toInt := rfl; omega)) dX12_make_61 (fun H locs hP hD hS => ?_)
        have hI := mInv_c hI (k := 7) (j := ((i 5) : Int32).toNatClampNeg) (x := s1) (show 0 ≤ (s1 : Int32).toInt ∧ (s1 : Int32).toInt ≤ 99 from by omega)
        have hfc : ∀ k, k ∉ ([6, 7] : List Nat) → (updA (updA c 6 ((i 5) : Int32).toNatClampNeg k1) 7 ((i 5) : Int32).toNatClampNeg s1) k = c k := fr_cz hfc (by decide) (by decide)
        refine lv_aload_n hx hb dX12_make_62 rfl (lv_at hl 0 rfl) ?_
        refine lv_dup hx hb dX12_make_63 rfl ?_
        refine mget_5 (v := (i 5)) rfl hx hb hts (fun _ h => List.mem_cons_of_mem _ (List.mem_append_right _ h)) hown hK hP (hts (.fieldLink RX12 177 "TalePlayModel" "objects" "I") (List.mem_cons_of_mem _ (List.mem_append_left _ (List.mem_of_getElem? (i := 6) rfl)))) dX12_make_64 ?_
        refine lv_iconst (v := 1) hx hb dX12_make_67 (by decide) ?_
        refine lv_iadd hx hb dX12_make_68 ?_
        refine lv_topi (fun x7 ex7 => ?_)
        have tx7 := ti_add (a := (i 5).toInt) (b := 1) ex7 rfl (by decide) (by omega) (by omega)
        refine mput_5 hx hb hts (fun _ h => List.mem_cons_of_mem _ (List.mem_append_right _ h)) hown hK hP hD hS (hts (.fieldLink RX12 177 "TalePlayModel" "objects" "I") (List.mem_cons_of_mem _ (List.mem_append_left _ (List.mem_of_getElem? (i := 6) rfl)))) rfl rfl dX12_make_69 (fun H locs hP hD hS => ?_)
        have hI := mInv_i hI (k := 5) (v := x7) (show 0 ≤ (x7 : Int32).toInt ∧ (x7 : Int32).toInt ≤ 30 from by have h9 : x7.toInt = ((i 5).toInt + 1) := tx7; omega)
        have hfi : ∀ k, k ∉ ([5] : List Nat) → (upd i 5 x7) k = i k := fr_iz hfi (by decide) (by decide)
        refine lv_aload_n hx hb dX12_make_72 rfl (lv_at hl 0 rfl) ?_
        refine al_callv (va_runV (As := []) (rest := []) ⟨hx, hb, hml, hown, hts⟩ (s_X12_endTale l D H.size o a t (upd i 5 x7) q (updA (updA c 6 ((i 5) : Int32).toNatClampNeg k1) 7 ((i 5) : Int32).toNatClampNeg s1) d  hI ) (cwV 0 hts gm_X12_make_X12_endTale rfl rfl rfl (by decide +kernel) ⟨Nat.le_of_ble_eq_true rfl, Nat.le_of_ble_eq_true rfl⟩) (pB_V hK hP hD (ci := 12) (q0 := 0) rfl rfl) rfl rfl hl.1 rfl (lv_room (Nat.le_of_ble_eq_true rfl)) dX12_make_73 ⟨Nat.le_of_ble_eq_true rfl, Nat.le_of_ble_eq_true rfl⟩) hS hA hP hD (fun u8 H locs hw8 hP hD hS => ?_)
        obtain ⟨i8, q8, c8, d8⟩ := u8
        have hw8 : True ∧ mInv i8 c8 ∧ (∀ k, k ∉ ([22, 27] : List Nat) → i8 k = (upd i 5 x7) k) ∧ (∀ k, k ∉ ([] : List Nat) → c8 k = (updA (updA c 6 ((i 5) : Int32).toNatClampNeg k1) 7 ((i 5) : Int32).toNatClampNeg s1) k) ∧ ((i8 22).toInt = -9) ∧ ((i8 27).toInt = 0) := hw8
        obtain ⟨hw8, hI, hei8, hec8, hxp8_0, hxp8_1⟩ := hw8
        have hxp8_0 : (i8 22).toInt = -9 := hxp8_0
        have hxp8_1 : (i8 27).toInt = 0 := hxp8_1
        have hfi : ∀ k, k ∉ ([5, 22, 27] : List Nat) → i8 k = i k := fr_z hfi hei8 (by decide) (by decide)
        have hfc : ∀ k, k ∉ ([6, 7] : List Nat) → c8 k = c k := fr_z hfc hec8 (by decide) (by decide)
        have hP : va_P D vwCl (mW o a t i8 q8 c8 d8) H := hP
        have hD : va_D A (mW o a t i8 q8 c8 d8) := hD
        have hob9 : (i8 5).toInt = (i 5).toInt + 1 := by rw [show i8 5 = (upd i 5 x7) 5 from hei8 5 (by decide)]; exact tx7
        refine lv_aload_n hx hb dX12_make_76 rfl (lv_at hl 0 rfl) ?_
        refine mget_5 (v := (i8 5)) rfl hx hb hts (fun _ h => List.mem_cons_of_mem _ (List.mem_append_right _ h)) hown hK hP (hts (.fieldLink RX12 177 "TalePlayModel" "objects" "I") (List.mem_cons_of_mem _ (List.mem_append_left _ (List.mem_of_getElem? (i := 6) rfl)))) dX12_make_77 ?_
        have rb5_i8 : 0 ≤ (i8 5).toInt ∧ (i8 5).toInt ≤ 30 := hI.1 5
        refine lv_iconst (v := 1) hx hb dX12_make_80 (by decide) ?_
        refine lv_isub hx hb dX12_make_81 ?_
        refine lv_topi (fun x9 ex9 => ?_)
        have tx9 := ti_sub (a := (i8 5).toInt) (b := 1) ex9 rfl (by decide) (by omega) (by omega)
        exact rw_iret (i8, q8, c8, d8) hx hb hr hlocks hS (hK.sub (tys' := []) [] rfl) hP hD dX12_make_82 ⟨trivial, hI, fr_w hfi (by decide), fr_w hfc (by decide), (show SJ (c8 3) (c8 6) (c8 9) (c8 10) (c8 11) (c8 13) ((i8 2) : Int32).toInt ((i8 5) : Int32).toInt ((i8 8) : Int32).toInt from by rw [show c8 3 = (updA (updA c 6 ((i 5) : Int32).toNatClampNeg k1) 7 ((i 5) : Int32).toNatClampNeg s1) 3 from hec8 3 (by decide), show c8 6 = (updA (updA c 6 ((i 5) : Int32).toNatClampNeg k1) 7 ((i 5) : Int32).toNatClampNeg s1) 6 from hec8 6 (by decide), show c8 9 = (updA (updA c 6 ((i 5) : Int32).toNatClampNeg k1) 7 ((i 5) : Int32).toNatClampNeg s1) 9 from hec8 9 (by decide), show c8 10 = (updA (updA c 6 ((i 5) : Int32).toNatClampNeg k1) 7 ((i 5) : Int32).toNatClampNeg s1) 10 from hec8 10 (by decide), show c8 11 = (updA (updA c 6 ((i 5) : Int32).toNatClampNeg k1) 7 ((i 5) : Int32).toNatClampNeg s1) 11 from hec8 11 (by decide), show c8 13 = (updA (updA c 6 ((i 5) : Int32).toNatClampNeg k1) 7 ((i 5) : Int32).toNatClampNeg s1) 13 from hec8 13 (by decide), show i8 2 = (upd i 5 x7) 2 from hei8 2 (by decide), show i8 5 = (upd i 5 x7) 5 from hei8 5 (by decide), show i8 8 = (upd i 5 x7) 8 from hei8 8 (by decide)]; show SJ (c 3) (upd (c 6) ((i 5) : Int32).toNatClampNeg k1) (c 9) (c 10) (c 11) (c 13) (i 2).toInt x7.toInt (i 8).toInt; rw [tx7]; exact SJ_make (N := (i 5).toInt) hs_S (by omega) (by omega) (mI_le hI0) (fun o => (mI_mi hI0 o).1)), (show TJ (c8 3) (c8 6) (c8 23) (c8 24) (c8 29) (c8 30) ((i8 5) : Int32).toInt ((i8 22) : Int32).toInt ((i8 27) : Int32).toInt from TJ_no hxp8_0), (show (¬ (0 ≤ k1.toInt ∧ k1.toInt < (i 2).toInt ∧ 0 ≤ s1.toInt ∧ s1.toInt ≤ 99) ∧ (x9 : Int32).toInt = -1 ∧ ((i8 5) : Int32).toInt = (i 5).toInt) ∨ (0 ≤ k1.toInt ∧ k1.toInt < (i 2).toInt ∧ 0 ≤ s1.toInt ∧ s1.toInt ≤ 99 ∧ 30 ≤ (i 5).toInt ∧ (x9 : Int32).toInt = -2 ∧ ((i8 5) : Int32).toInt = (i 5).toInt) ∨ (0 ≤ k1.toInt ∧ k1.toInt < (i 2).toInt ∧ 0 ≤ s1.toInt ∧ s1.toInt ≤ 99 ∧ (i 5).toInt ≤ 29 ∧ (x9 : Int32).toInt = (i 5).toInt ∧ ((i8 5) : Int32).toInt = (i 5).toInt + 1) from by have h53 : x9.toInt = ((i8 5).toInt - 1) := tx9; omega)⟩
      · have f6 := (ti_eq (a := (i 5).toInt) (b := 30) rfl (by decide)).mp c6
        refine lv_bipush (v := (-2)) hx hb dX12_make_39 (by decide) ?_
        exact rw_iret (i, q, c, d) hx hb hr hlocks hS (hK.sub (tys' := []) [] rfl) hP hD dX12_make_41 ⟨trivial, hI, fr_w hfi (by decide), fr_w hfc (by decide), (show SJ (c 3) (c 6) (c 9) (c 10) (c 11) (c 13) ((i 2) : Int32).toInt ((i 5) : Int32).toInt ((i 8) : Int32).toInt from hs_S), (show TJ (c 3) (c 6) (c 23) (c 24) (c 29) (c 30) ((i 5) : Int32).toInt ((i 22) : Int32).toInt ((i 27) : Int32).toInt from hs_J), (show (¬ (0 ≤ k1.toInt ∧ k1.toInt < (i 2).toInt ∧ 0 ≤ s1.toInt ∧ s1.toInt ≤ 99) ∧ ((-2) : Int32).toInt = -1 ∧ ((i 5) : Int32).toInt = (i 5).toInt) ∨ (0 ≤ k1.toInt ∧ k1.toInt < (i 2).toInt ∧ 0 ≤ s1.toInt ∧ s1.toInt ≤ 99 ∧ 30 ≤ (i 5).toInt ∧ ((-2) : Int32).toInt = -2 ∧ ((i 5) : Int32).toInt = (i 5).toInt) ∨ (0 ≤ k1.toInt ∧ k1.toInt < (i 2).toInt ∧ 0 ≤ s1.toInt ∧ s1.toInt ≤ 99 ∧ (i 5).toInt ≤ 29 ∧ ((-2) : Int32).toInt = (i 5).toInt ∧ ((i 5) : Int32).toInt = (i 5).toInt + 1) from by have h53 : ((-2) : Int32).toInt = -2 := (by decide); omega)⟩
    · have f5 := fl_f hw4 c5
      refine lv_iconst (v := (-1)) hx hb dX12_make_28 (by decide) ?_
      exact rw_iret (i, q, c, d) hx hb hr hlocks hS (hK.sub (tys' := []) [] rfl) hP hD dX12_make_29 ⟨trivial, hI, fr_w hfi (by decide), fr_w hfc (by decide), (show SJ (c 3) (c 6) (c 9) (c 10) (c 11) (c 13) ((i 2) : Int32).toInt ((i 5) : Int32).toInt ((i 8) : Int32).toInt from hs_S), (show TJ (c 3) (c 6) (c 23) (c 24) (c 29) (c 30) ((i 5) : Int32).toInt ((i 22) : Int32).toInt ((i 27) : Int32).toInt from hs_J), (show (¬ (0 ≤ k1.toInt ∧ k1.toInt < (i 2).toInt ∧ 0 ≤ s1.toInt ∧ s1.toInt ≤ 99) ∧ ((-1) : Int32).toInt = -1 ∧ ((i 5) : Int32).toInt = (i 5).toInt) ∨ (0 ≤ k1.toInt ∧ k1.toInt < (i 2).toInt ∧ 0 ≤ s1.toInt ∧ s1.toInt ≤ 99 ∧ 30 ≤ (i 5).toInt ∧ ((-1) : Int32).toInt = -2 ∧ ((i 5) : Int32).toInt = (i 5).toInt) ∨ (0 ≤ k1.toInt ∧ k1.toInt < (i 2).toInt ∧ 0 ≤ s1.toInt ∧ s1.toInt ≤ 99 ∧ (i 5).toInt ≤ 29 ∧ ((-1) : Int32).toInt = (i 5).toInt ∧ ((i 5) : Int32).toInt = (i 5).toInt + 1) from by have h53 : ((-1) : Int32).toInt = -1 := (by decide); omega)⟩

def wm_X3_open_e : List Cond := .code yX3_open cX3_open 3 (some .int) :: (([.fieldLink RX3 9 "TalePlay$Casts" "sorts" "[I", .fieldLink RX3 27 "TalePlay$Casts" "made" "I", .fieldLink RX3 15 "TalePlay$Casts" "lengths" "[I"] : List Cond) ++ wsX30)
set_option maxHeartbeats 4000000 in
set_option maxRecDepth 100000 in
theorem x_X3_open_e (l : Launch) (D : va_G) (sz : Nat) (sk : Value) (a : Nat → Nat) (t : Nat → ClassId) (i : Nat → Int32) (q : Int64) (c : Nat → Nat → Int32) (d : Nat → Nat → Int64) (s1 : Int32) (n1 : Int32) (hI : xInv i c) (hs1 : 1 ≤ s1.toInt ∧ s1.toInt ≤ 5) (hn1 : 0 ≤ n1.toInt ∧ n1.toInt ≤ 12) (hm : (i 165).toInt ≤ 9) : Met l yX3_open wm_X3_open_e ({ frames := 0, cells := 0, slots := 0, locals := 0 }) (va_Pc [.ref (a 161), .int s1, .int n1] (yB (a 186) D sz (xwT sk a t i q c d) (xtT t))) (va_Qi (fun (r : Int32) (u : MS) => (r.toInt = (i 165).toInt) ∧ xInv u.1 u.2.2.1 ∧ (∀ k, k ∉ ([165] : List Nat) → u.1 k = i k) ∧ (∀ k, k ∉ ([162, 163] : List Nat) → u.2.2.1 k = c k) ∧ ((u.1 165).toInt = (i 165).toInt + 1)) (oC D (va_A (xwT sk a t i q c d) sz) (fun u : MS => xwT sk a t u.1 u.2.1 u.2.2.1 u.2.2.2) (fun _ => [])) (va_A (xwT sk a t i q c d) sz)) 0 0 (va_A (xwT sk a t i q c d) sz) := by
  refine Met.ofW (cc := cX3_open) (maxL := 3) (ret := (some .int)) (by decide) rfl ?_
  intro p e s m args below meth cd s₁ B hml hv
  obtain ⟨rfl, ⟨hsz, hP, hK, hD0⟩, hN, hZ, hBW⟩ := hv
  have hx := B.exec
  have hb := B.bytes
  have hr := B.returns
  have hts := atoms_spec (ws := wm_X3_open_e) B.pre
  have hown : s.vm.findClass RX3 = some m.cls := findClass_of_methodNamed B.named
  have hlocks := B.notSynchronized
  subst hsz
  have hD := hD0.self (sz := s.heap.size)
  have hZ := xZ_A hZ hP hBW
  generalize hAe : va_A (xwT sk a t i q c d) s.heap.size = A at hD hZ ⊢
  have hA : ∀ q : Nat, s.heap.size ≤ q → A q := fun q h => by rw [← hAe]; exact Or.inr h
  have hS : va_S A s.heap s.heap [] := va_S.rf
  have hfi : ∀ k, k ∉ ([] : List Nat) → i k = i k := fun _ _ => rfl
  have hfc : ∀ k, k ∉ ([] : List Nat) → c k = c k := fun _ _ => rfl
  have hl := lv_entry ([.ref (a 161), .int s1, .int n1]) (n := 3) (Nat.le_of_ble_eq_true rfl)
  rw [lg_entry_eq]
  generalize (lg_sl ([.ref (a 161), .int s1, .int n1]) ++ List.replicate (3 - (lg_sl ([.ref (a 161), .int s1, .int n1])).length) Slot.unset).toArray = ls at hl ⊢
  have hl : lv_has ls 3 [(0, .ref (a 161)), (1, .int s1), (2, .int n1)] := hl
  refine lv_aload_n hx hb dX3_open_0 rfl (lv_at hl 0 rfl) ?_
  refine xgT_C_sorts hx hb hts (fun _ h => List.mem_cons_of_mem _ (List.mem_append_right _ h)) hown hK hP (hts (.fieldLink RX3 9 "TalePlay$Casts" "sorts" "[I") (List.mem_cons_of_mem _ (List.mem_append_left _ (List.mem_of_getElem? (i := 0) rfl)))) dX3_open_1 ?_
  refine lv_aload_n hx hb dX3_open_4 rfl (lv_at hl 0 rfl) ?_
  refine xgT_C_made (v := (i 165)) rfl hx hb hts (fun _ h => List.mem_cons_of_mem _ (List.mem_append_right _ h)) hown hK hP (hts (.fieldLink RX3 27 "TalePlay$Casts" "made" "I") (List.mem_cons_of_mem _ (List.mem_append_left _ (List.mem_of_getElem? (i := 1) rfl)))) dX3_open_5 ?_
  have rb165_i : 0 ≤ (i 165).toInt ∧ (i 165).toInt ≤ 10 := hI.1 165
  refine lv_iload_n hx hb dX3_open_8 rfl (lv_at hl 1 rfl) ?_
  refine xsT_162 hx hb hK hP hD hS (vp_in_iff.mpr (by have h9 : (i 165).toInt = (i 165).toInt := rfl; omega)) dX3_open_9 (fun H locs hP hD hS => ?_)
  have hI := xInv_c hI (k := 162) (j := ((i 165) : Int32).toNatClampNeg) (x := s1) (show 0 ≤ (s1 : Int32).toInt ∧ (s1 : Int32).toInt ≤ 5 from by omega)
  have hfc : ∀ k, k ∉ ([162] : List Nat) → (updA c 162 ((i 165) : Int32).toNatClampNeg s1) k = c k := fr_cz hfc (by decide) (by decide)
  refine lv_aload_n hx hb dX3_open_10 rfl (lv_at hl 0 rfl) ?_
  refine xgT_C_lengths hx hb hts (fun _ h => List.mem_cons_of_mem _ (List.mem_append_right _ h)) hown hK hP (hts (.fieldLink RX3 15 "TalePlay$Casts" "lengths" "[I") (List.mem_cons_of_mem _ (List.mem_append_left _ (List.mem_of_getElem? (i := 2) rfl)))) dX3_open_11 ?_
  refine lv_aload_n hx hb dX3_open_14 rfl (lv_at hl 0 rfl) ?_
  refine xgT_C_made (v := (i 165)) rfl hx hb hts (fun _ h => List.mem_cons_of_mem _ (List.mem_append_right _ h)) hown hK hP (hts (.fieldLink RX3 27 "TalePlay$Casts" "made" "I") (List.mem_cons_of_mem _ (List.mem_append_left _ (List.mem_of_getElem? (i := 1) rfl)))) dX3_open_15 ?_
  refine lv_iload_n hx hb dX3_open_18 rfl (lv_at hl 2 rfl) ?_
  refine xsT_163 hx hb hK hP hD hS (vp_in_iff.mpr (by have h9 : (i 165).toInt = (i 165).toInt := rfl; omega)) dX3_open_19 (fun H locs hP hD hS => ?_)
  have hI := xInv_c hI (k := 163) (j := ((i 165) : Int32).toNatClampNeg) (x := n1) (show 0 ≤ (n1 : Int32).toInt ∧ (n1 : Int32).toInt ≤ 12 from by omega)
  have hfc : ∀ k, k ∉ ([162, 163] : List Nat) → (updA (updA c 162 ((i 165) : Int32).toNatClampNeg s1) 163 ((i 165) : Int32).toNatClampNeg n1) k = c k := fr_cz hfc (by decide) (by decide)
  refine lv_aload_n hx hb dX3_open_20 rfl (lv_at hl 0 rfl) ?_
  refine lv_dup hx hb dX3_open_21 rfl ?_
  refine xgT_C_made (v := (i 165)) rfl hx hb hts (fun _ h => List.mem_cons_of_mem _ (List.mem_append_right _ h)) hown hK hP (hts (.fieldLink RX3 27 "TalePlay$Casts" "made" "I") (List.mem_cons_of_mem _ (List.mem_append_left _ (List.mem_of_getElem? (i := 1) rfl)))) dX3_open_22 ?_
  refine lv_dup_x1 hx hb dX3_open_25 rfl rfl ?_
  refine lv_iconst (v := 1) hx hb dX3_open_26 (by decide) ?_
  refine lv_iadd hx hb dX3_open_27 ?_
  refine lv_topi (fun x1 ex1 => ?_)
  have tx1 := ti_add (a := (i 165).toInt) (b := 1) ex1 rfl (by decide) (by omega) (by omega)
  refine xpT_C_made hx hb hts (fun _ h => List.mem_cons_of_mem _ (List.mem_append_right _ h)) hown hK hP hD hS (hts (.fieldLink RX3 27 "TalePlay$Casts" "made" "I") (List.mem_cons_of_mem _ (List.mem_append_left _ (List.mem_of_getElem? (i := 1) rfl)))) rfl rfl dX3_open_28 (fun H locs hP hD hS => ?_)
  have hI := xInv_i hI (k := 165) (v := x1) (show 0 ≤ (x1 : Int32).toInt ∧ (x1 : Int32).toInt ≤ 10 from by have h9 : x1.toInt = ((i 165).toInt + 1) := tx1; omega)
  have hfi : ∀ k, k ∉ ([165] : List Nat) → (upd i 165 x1) k = i k := fr_iz hfi (by decide) (by decide)
  exact rw_iret ((upd i 165 x1), q, (updA (updA c 162 ((i 165) : Int32).toNatClampNeg s1) 163 ((i 165) : Int32).toNatClampNeg n1), d) hx hb hr hlocks hS (hK.sub (tys' := []) [] rfl) hP hD dX3_open_31 ⟨(show (i 165).toInt = (i 165).toInt from by omega), hI, fr_w hfi (by decide), fr_w hfc (by decide), (show (x1 : Int32).toInt = (i 165).toInt + 1 from by have h50 : x1.toInt = ((i 165).toInt + 1) := tx1; omega)⟩

def wm_X11_cast_e : List Cond := .code yX11_cast cX11_cast 3 (some .int) :: ((([.fieldLink RX11 60 "TalePlay" "casts" "LTalePlay$Casts;", .fieldLink RX11 334 "TalePlay$Casts" "made" "I", .methodLink RX11 337 yX3_open, .instanceMethod yX3_open, .selects RX3 yX3_open yX3_open, .initialized RX3, .code yX3_open cX3_open 3 (some .int), .fieldLink RX3 9 "TalePlay$Casts" "sorts" "[I", .fieldLink RX3 27 "TalePlay$Casts" "made" "I", .fieldLink RX3 15 "TalePlay$Casts" "lengths" "[I", .methodLink RX11 128 yX11_answerFinding, .instanceMethod yX11_answerFinding, .selects RX11 yX11_answerFinding yX11_answerFinding, .initialized RX11, .code yX11_answerFinding cX11_answerFinding 2 (some .int), .fieldLink RX11 72 "TalePlay" "latestFinding" "I"] : List Cond) ++ ([.fieldLink RX11 68 "TalePlay" "findingCounts" "[I"] : List Cond)) ++ wsX110 ++ wsX30)
set_option maxRecDepth 20000 in
theorem gm_X11_cast_e_X3_open_e_337 : GoodIn wm_X11_cast_e (wsV RX11 337 RX3 yX3_open wm_X3_open_e) := goodIn_w (List.forall_mem_append.mpr ⟨List.forall_mem_cons.mpr ⟨List.mem_cons_of_mem _ (List.mem_append_left _ (List.mem_append_left _ (List.mem_append_left _ (List.mem_of_getElem? (i := 2) rfl)))), List.forall_mem_cons.mpr ⟨List.mem_cons_of_mem _ (List.mem_append_left _ (List.mem_append_left _ (List.mem_append_left _ (List.mem_of_getElem? (i := 3) rfl)))), List.forall_mem_cons.mpr ⟨List.mem_cons_of_mem _ (List.mem_append_left _ (List.mem_append_left _ (List.mem_append_left _ (List.mem_of_getElem? (i := 4) rfl)))), List.forall_mem_cons.mpr ⟨List.mem_cons_of_mem _ (List.mem_append_left _ (List.mem_append_left _ (List.mem_append_left _ (List.mem_of_getElem? (i := 5) rfl)))), (fun _ h => absurd h List.not_mem_nil)⟩⟩⟩⟩, List.forall_mem_cons.mpr ⟨List.mem_cons_of_mem _ (List.mem_append_left _ (List.mem_append_left _ (List.mem_append_left _ (List.mem_of_getElem? (i := 6) rfl)))), List.forall_mem_append.mpr ⟨List.forall_mem_cons.mpr ⟨List.mem_cons_of_mem _ (List.mem_append_left _ (List.mem_append_left _ (List.mem_append_left _ (List.mem_of_getElem? (i := 7) rfl)))), List.forall_mem_cons.mpr ⟨List.mem_cons_of_mem _ (List.mem_append_left _ (List.mem_append_left _ (List.mem_append_left _ (List.mem_of_getElem? (i := 8) rfl)))), List.forall_mem_cons.mpr ⟨List.mem_cons_of_mem _ (List.mem_append_left _ (List.mem_append_left _ (List.mem_append_left _ (List.mem_of_getElem? (i := 9) rfl)))), (fun _ h => absurd h List.not_mem_nil)⟩⟩⟩, (fun _ h => List.mem_cons_of_mem _ (List.mem_append_right _ h))⟩⟩⟩) (by decide +kernel)
set_option maxRecDepth 20000 in
theorem gm_X11_cast_e_X11_answerFinding_128 : GoodIn wm_X11_cast_e (wsV RX11 128 RX11 yX11_answerFinding wm_X11_answerFinding) := goodIn_w (List.forall_mem_append.mpr ⟨List.forall_mem_cons.mpr ⟨List.mem_cons_of_mem _ (List.mem_append_left _ (List.mem_append_left _ (List.mem_append_left _ (List.mem_of_getElem? (i := 10) rfl)))), List.forall_mem_cons.mpr ⟨List.mem_cons_of_mem _ (List.mem_append_left _ (List.mem_append_left _ (List.mem_append_left _ (List.mem_of_getElem? (i := 11) rfl)))), List.forall_mem_cons.mpr ⟨List.mem_cons_of_mem _ (List.mem_append_left _ (List.mem_append_left _ (List.mem_append_left _ (List.mem_of_getElem? (i := 12) rfl)))), List.forall_mem_cons.mpr ⟨List.mem_cons_of_mem _ (List.mem_append_left _ (List.mem_append_left _ (List.mem_append_left _ (List.mem_of_getElem? (i := 13) rfl)))), (fun _ h => absurd h List.not_mem_nil)⟩⟩⟩⟩, List.forall_mem_cons.mpr ⟨List.mem_cons_of_mem _ (List.mem_append_left _ (List.mem_append_left _ (List.mem_append_left _ (List.mem_of_getElem? (i := 14) rfl)))), List.forall_mem_append.mpr ⟨List.forall_mem_cons.mpr ⟨List.mem_cons_of_mem _ (List.mem_append_left _ (List.mem_append_left _ (List.mem_append_left _ (List.mem_of_getElem? (i := 15) rfl)))), List.forall_mem_cons.mpr ⟨List.mem_cons_of_mem _ (List.mem_append_left _ (List.mem_append_left _ (List.mem_append_right _ (List.mem_of_getElem? (i := 0) rfl)))), (fun _ h => absurd h List.not_mem_nil)⟩⟩, (fun _ h => List.mem_cons_of_mem _ (List.mem_append_left _ (List.mem_append_right _ h)))⟩⟩⟩) (by decide +kernel)
set_option maxHeartbeats 4000000 in
set_option maxRecDepth 100000 in
theorem x_X11_cast_e (l : Launch) (D : va_G) (sz : Nat) (sk : Value) (a : Nat → Nat) (t : Nat → ClassId) (i : Nat → Int32) (q : Int64) (c : Nat → Nat → Int32) (d : Nat → Nat → Int64) (s1 : Int32) (n1 : Int32) (hI : xInv i c) : Met l yX11_cast wm_X11_cast_e ({ frames := 1, cells := 0, slots := 0, locals := 22 }) (va_Pc [.ref (a 100), .int s1, .int n1] (yB (a 186) D sz (xwT sk a t i q c d) (xtT t))) (va_Qi (fun (r : Int32) (u : MS) => True ∧ xInv u.1 u.2.2.1 ∧ (∀ k, k ∉ ([102, 165] : List Nat) → u.1 k = i k) ∧ (∀ k, k ∉ ([101, 162, 163] : List Nat) → u.2.2.1 k = c k) ∧ ((¬ (1 ≤ s1.toInt ∧ s1.toInt ≤ 5 ∧ n1.toInt ≤ 12) ∧ r.toInt = -1 ∧ (u.1 165).toInt = (i 165).toInt) ∨ (1 ≤ s1.toInt ∧ s1.toInt ≤ 5 ∧ n1.toInt ≤ 12 ∧ 10 ≤ (i 165).toInt ∧ r.toInt = -2 ∧ (u.1 165).toInt = (i 165).toInt) ∨ (1 ≤ s1.toInt ∧ s1.toInt ≤ 5 ∧ n1.toInt ≤ 12 ∧ (i 165).toInt ≤ 9 ∧ n1.toInt < 0 ∧ r.toInt = -3 ∧ (u.1 165).toInt = (i 165).toInt) ∨ (1 ≤ s1.toInt ∧ s1.toInt ≤ 5 ∧ n1.toInt ≤ 12 ∧ (i 165).toInt ≤ 9 ∧ 0 ≤ n1.toInt ∧ r.toInt = (i 165).toInt ∧ (u.1 165).toInt = (i 165).toInt + 1))) (oC D (va_A (xwT sk a t i q c d) sz) (fun u : MS => xwT sk a t u.1 u.2.1 u.2.2.1 u.2.2.2) (fun _ => [])) (va_A (xwT sk a t i q c d) sz)) 0 0 (va_A (xwT sk a t i q c d) sz) := by
  refine Met.ofW (cc := cX11_cast) (maxL := 3) (ret := (some .int)) (by decide) rfl ?_
  intro p e s m args below meth cd s₁ B hml hv
  obtain ⟨rfl, ⟨hsz, hP, hK, hD0⟩, hN, hZ, hBW⟩ := hv
  have hx := B.exec
  have hb := B.bytes
  have hr := B.returns
  have hts := atoms_spec (ws := wm_X11_cast_e) B.pre
  have hown : s.vm.findClass RX11 = some m.cls := findClass_of_methodNamed B.named
  have hlocks := B.notSynchronized
  subst hsz
  have hD := hD0.self (sz := s.heap.size)
  have hZ := xZ_A hZ hP hBW
  generalize hAe : va_A (xwT sk a t i q c d) s.heap.size = A at hD hZ ⊢
  have hA : ∀ q : Nat, s.heap.size ≤ q → A q := fun q h => by rw [← hAe]; exact Or.inr h
  have hS : va_S A s.heap s.heap [] := va_S.rf
  have hfi : ∀ k, k ∉ ([] : List Nat) → i k = i k := fun _ _ => rfl
  have hfc : ∀ k, k ∉ ([] : List Nat) → c k = c k := fun _ _ => rfl
  have hl := lv_entry ([.ref (a 100), .int s1, .int n1]) (n := 3) (Nat.le_of_ble_eq_true rfl)
  rw [lg_entry_eq]
  generalize (lg_sl ([.ref (a 100), .int s1, .int n1]) ++ List.replicate (3 - (lg_sl ([.ref (a 100), .int s1, .int n1])).length) Slot.unset).toArray = ls at hl ⊢
  have hl : lv_has ls 3 [(0, .ref (a 100)), (1, .int s1), (2, .int n1)] := hl
  have rb165_i : 0 ≤ (i 165).toInt ∧ (i 165).toInt ≤ 10 := hI.1 165
  refine lv_iload_n hx hb dX11_cast_0 rfl (lv_at hl 1 rfl) ?_
  refine lv_iconst (v := 1) hx hb dX11_cast_1 (by decide) ?_
  refine lv_icmp_lt (tgt := 16) hx hb dX11_cast_2 (by decide) (fun c1 => ?_) (fun c1 => ?_)
  · have f1 := (ti_lt (a := s1.toInt) (b := 1) rfl (by decide)).mp c1
    refine lv_iconst (v := (-1)) hx hb dX11_cast_16 (by decide) ?_
    exact rw_iret (i, q, c, d) hx hb hr hlocks hS (hK.sub (tys' := []) [] rfl) hP hD dX11_cast_17 ⟨trivial, hI, fr_w hfi (by decide), fr_w hfc (by decide), (show (¬ (1 ≤ s1.toInt ∧ s1.toInt ≤ 5 ∧ n1.toInt ≤ 12) ∧ ((-1) : Int32).toInt = -1 ∧ ((i 165) : Int32).toInt = (i 165).toInt) ∨ (1 ≤ s1.toInt ∧ s1.toInt ≤ 5 ∧ n1.toInt ≤ 12 ∧ 10 ≤ (i 165).toInt ∧ ((-1) : Int32).toInt = -2 ∧ ((i 165) : Int32).toInt = (i 165).toInt) ∨ (1 ≤ s1.toInt ∧ s1.toInt ≤ 5 ∧ n1.toInt ≤ 12 ∧ (i 165).toInt ≤ 9 ∧ n1.toInt < 0 ∧ ((-1) : Int32).toInt = -3 ∧ ((i 165) : Int32).toInt = (i 165).toInt) ∨ (1 ≤ s1.toInt ∧ s1.toInt ≤ 5 ∧ n1.toInt ≤ 12 ∧ (i 165).toInt ≤ 9 ∧ 0 ≤ n1.toInt ∧ ((-1) : Int32).toInt = (i 165).toInt ∧ ((i 165) : Int32).toInt = (i 165).toInt + 1) from by have h54 : ((-1) : Int32).toInt = -1 := (by decide); omega)⟩
  · have f1 := mt (ti_lt (a := s1.toInt) (b := 1) rfl (by decide)).mpr c1
    refine lv_iload_n hx hb dX11_cast_5 rfl (lv_at hl 1 rfl) ?_
    refine lv_iconst (v := 5) hx hb dX11_cast_6 (by decide) ?_
    refine lv_icmp_gt (tgt := 16) hx hb dX11_cast_7 (by decide) (fun c2 => ?_) (fun c2 => ?_)
    · have f2 := (ti_lt (a := 5) (b := s1.toInt) (by decide) rfl).mp c2
      refine lv_iconst (v := (-1)) hx hb dX11_cast_16 (by decide) ?_
      exact rw_iret (i, q, c, d) hx hb hr hlocks hS (hK.sub (tys' := []) [] rfl) hP hD dX11_cast_17 ⟨trivial, hI, fr_w hfi (by decide), fr_w hfc (by decide), (show (¬ (1 ≤ s1.toInt ∧ s1.toInt ≤ 5 ∧ n1.toInt ≤ 12) ∧ ((-1) : Int32).toInt = -1 ∧ ((i 165) : Int32).toInt = (i 165).toInt) ∨ (1 ≤ s1.toInt ∧ s1.toInt ≤ 5 ∧ n1.toInt ≤ 12 ∧ 10 ≤ (i 165).toInt ∧ ((-1) : Int32).toInt = -2 ∧ ((i 165) : Int32).toInt = (i 165).toInt) ∨ (1 ≤ s1.toInt ∧ s1.toInt ≤ 5 ∧ n1.toInt ≤ 12 ∧ (i 165).toInt ≤ 9 ∧ n1.toInt < 0 ∧ ((-1) : Int32).toInt = -3 ∧ ((i 165) : Int32).toInt = (i 165).toInt) ∨ (1 ≤ s1.toInt ∧ s1.toInt ≤ 5 ∧ n1.toInt ≤ 12 ∧ (i 165).toInt ≤ 9 ∧ 0 ≤ n1.toInt ∧ ((-1) : Int32).toInt = (i 165).toInt ∧ ((i 165) : Int32).toInt = (i 165).toInt + 1) from by have h54 : ((-1) : Int32).toInt = -1 := (by decide); omega)⟩
    · have f2 := mt (ti_lt (a := 5) (b := s1.toInt) (by decide) rfl).mpr c2
      refine lv_iload_n hx hb dX11_cast_10 rfl (lv_at hl 2 rfl) ?_
      refine lv_bipush (v := 12) hx hb dX11_cast_11 (by decide) ?_
      refine lv_icmp_le (tgt := 18) hx hb dX11_cast_13 (by decide) (fun c3 => ?_) (fun c3 => ?_)
      · have f3 := (ti_le (a := n1.toInt) (b := 12) rfl (by decide)).mp c3
        refine lv_aload_n hx hb dX11_cast_18 rfl (lv_at hl 0 rfl) ?_
        refine xgT_X_casts hx hb hts (fun _ h => List.mem_cons_of_mem _ (List.mem_append_left _ (List.mem_append_right _ h))) hown hK hP (hts (.fieldLink RX11 60 "TalePlay" "casts" "LTalePlay$Casts;") (List.mem_cons_of_mem _ (List.mem_append_left _ (List.mem_append_left _ (List.mem_append_left _ (List.mem_of_getElem? (i := 0) rfl)))))) dX11_cast_19 ?_
        refine xgT_C_made (v := (i 165)) rfl hx hb hts (fun _ h => List.mem_cons_of_mem _ (List.mem_append_right _ h)) hown hK hP (hts (.fieldLink RX11 334 "TalePlay$Casts" "made" "I") (List.mem_cons_of_mem _ (List.mem_append_left _ (List.mem_append_left _ (List.mem_append_left _ (List.mem_of_getElem? (i := 1) rfl)))))) dX11_cast_22 ?_
        refine lv_bipush (v := 10) hx hb dX11_cast_25 (by decide) ?_
        refine lv_icmp_lt (tgt := 33) hx hb dX11_cast_27 (by decide) (fun c4 => ?_) (fun c4 => ?_)
        · have f4 := (ti_lt (a := (i 165).toInt) (b := 10) rfl (by decide)).mp c4
          refine lv_iload_n hx hb dX11_cast_33 rfl (lv_at hl 2 rfl) ?_
          refine lv_if_ge (tgt := 43) hx hb dX11_cast_34 (by decide) (fun c5 => ?_) (fun c5 => ?_)
          · have f5 := (ti_le (a := 0) (b := n1.toInt) (by decide) rfl).mp c5
            refine lv_aload_n hx hb dX11_cast_43 rfl (lv_at hl 0 rfl) ?_
            refine xgT_X_casts hx hb hts (fun _ h => List.mem_cons_of_mem _ (List.mem_append_left _ (List.mem_append_right _ h))) hown hK hP (hts (.fieldLink RX11 60 "TalePlay" "casts" "LTalePlay$Casts;") (List.mem_cons_of_mem _ (List.mem_append_left _ (List.mem_append_left _ (List.mem_append_left _ (List.mem_of_getElem? (i := 0) rfl)))))) dX11_cast_44 ?_
            refine lv_iload_n hx hb dX11_cast_47 rfl (lv_at hl 1 rfl) ?_
            refine lv_iload_n hx hb dX11_cast_48 rfl (lv_at hl 2 rfl) ?_
            refine al_calli (va_runV (As := [.int s1, .int n1]) (rest := []) ⟨hx, hb, hml, hown, hts⟩ (x_X3_open_e l D s.heap.size sk a t i q c d s1 n1 hI (show 1 ≤ s1.toInt ∧ s1.toInt ≤ 5 from by omega) (show 0 ≤ n1.toInt ∧ n1.toInt ≤ 12 from by omega) (show ((i 165) : Int32).toInt ≤ 9 from by omega)) (cwV 2 hts gm_X11_cast_e_X3_open_e_337 rfl rfl rfl (by decide +kernel) ⟨Nat.le_of_ble_eq_true rfl, Nat.le_of_ble_eq_true rfl⟩) (yB_V hN (xZ_k hZ hS hA) (xZ_n hZ hD) hK hP hD (ci := 3) (q0 := 47) rfl rfl) rfl rfl hl.1 rfl (lv_room (Nat.le_of_ble_eq_true rfl)) dX11_cast_49 ⟨Nat.le_of_ble_eq_true rfl, Nat.le_of_ble_eq_true rfl⟩) hS hA hP hD (fun r6 u6 H locs hw6 hP hD hS => ?_)
            obtain ⟨i6, q6, c6, d6⟩ := u6
            have hw6 : (r6.toInt = (i 165).toInt) ∧ xInv i6 c6 ∧ (∀ k, k ∉ ([165] : List Nat) → i6 k = i k) ∧ (∀ k, k ∉ ([162, 163] : List Nat) → c6 k = c k) ∧ ((i6 165).toInt = (i 165).toInt + 1) := hw6
            obtain ⟨hw6, hI, hei6, hec6, hxp6_0⟩ := hw6
            have hxp6_0 : (i6 165).toInt = (i 165).toInt + 1 := hxp6_0
            have hfi : ∀ k, k ∉ ([165] : List Nat) → i6 k = i k := fr_z hfi hei6 (by decide) (by decide)
            have hfc : ∀ k, k ∉ ([162, 163] : List Nat) → c6 k = c k := fr_z hfc hec6 (by decide) (by decide)
            exact rw_iret (i6, q6, c6, d6) hx hb hr hlocks hS (hK.sub (tys' := []) [] rfl) hP hD dX11_cast_52 ⟨trivial, hI, fr_w hfi (by decide), fr_w hfc (by decide), (show (¬ (1 ≤ s1.toInt ∧ s1.toInt ≤ 5 ∧ n1.toInt ≤ 12) ∧ (r6 : Int32).toInt = -1 ∧ ((i6 165) : Int32).toInt = (i 165).toInt) ∨ (1 ≤ s1.toInt ∧ s1.toInt ≤ 5 ∧ n1.toInt ≤ 12 ∧ 10 ≤ (i 165).toInt ∧ (r6 : Int32).toInt = -2 ∧ ((i6 165) : Int32).toInt = (i 165).toInt) ∨ (1 ≤ s1.toInt ∧ s1.toInt ≤ 5 ∧ n1.toInt ≤ 12 ∧ (i 165).toInt ≤ 9 ∧ n1.toInt < 0 ∧ (r6 : Int32).toInt = -3 ∧ ((i6 165) : Int32).toInt = (i 165).toInt) ∨ (1 ≤ s1.toInt ∧ s1.toInt ≤ 5 ∧ n1.toInt ≤ 12 ∧ (i 165).toInt ≤ 9 ∧ 0 ≤ n1.toInt ∧ (r6 : Int32).toInt = (i 165).toInt ∧ ((i6 165) : Int32).toInt = (i 165).toInt + 1) from by omega)⟩
          · have f5 := mt (ti_le (a := 0) (b := n1.toInt) (by decide) rfl).mpr c5
            refine lv_aload_n hx hb dX11_cast_37 rfl (lv_at hl 0 rfl) ?_
            refine lv_iconst (v := 5) hx hb dX11_cast_38 (by decide) ?_
            refine al_calli (va_runV (As := [.int 5]) (rest := []) ⟨hx, hb, hml, hown, hts⟩ (x_X11_answerFinding l D s.heap.size sk a t i q c d 5 hI (show 1 ≤ 5 ∧ 5 ≤ 6 from by have h90 : (5 : Int32).toInt = 5 := (by decide); omega)) (cwV 1 hts gm_X11_cast_e_X11_answerFinding_128 rfl rfl rfl (by decide +kernel) ⟨Nat.le_of_ble_eq_true rfl, Nat.le_of_ble_eq_true rfl⟩) (yB_V hN (xZ_k hZ hS hA) (xZ_n hZ hD) hK hP hD (ci := 11) (q0 := 0) rfl rfl) rfl rfl hl.1 rfl (lv_room (Nat.le_of_ble_eq_true rfl)) dX11_cast_39 ⟨Nat.le_of_ble_eq_true rfl, Nat.le_of_ble_eq_true rfl⟩) hS hA hP hD (fun r7 u7 H locs hw7 hP hD hS => ?_)
            obtain ⟨i7, q7, c7, d7⟩ := u7
            have hw7 : r7 = (-3) ∧ xInv i7 c7 ∧ (∀ k, k ∉ ([102] : List Nat) → i7 k = i k) ∧ (∀ k, k ∉ ([101] : List Nat) → c7 k = c k) := hw7
            obtain ⟨hw7, hI, hei7, hec7⟩ := hw7
            have hfi : ∀ k, k ∉ ([102] : List Nat) → i7 k = i k := fr_z hfi hei7 (by decide) (by decide)
            have hfc : ∀ k, k ∉ ([101] : List Nat) → c7 k = c k := fr_z hfc hec7 (by decide) (by decide)
            have hw7 : r7 = (-3) := hw7
            subst hw7
            have hmd9 : (i7 165).toInt = (i 165).toInt := by rw [show i7 165 = i 165 from hfi 165 (by decide)]
            exact rw_iret (i7, q7, c7, d7) hx hb hr hlocks hS (hK.sub (tys' := []) [] rfl) hP hD dX11_cast_42 ⟨trivial, hI, fr_w hfi (by decide), fr_w hfc (by decide), (show (¬ (1 ≤ s1.toInt ∧ s1.toInt ≤ 5 ∧ n1.toInt ≤ 12) ∧ ((-3) : Int32).toInt = -1 ∧ ((i7 165) : Int32).toInt = (i 165).toInt) ∨ (1 ≤ s1.toInt ∧ s1.toInt ≤ 5 ∧ n1.toInt ≤ 12 ∧ 10 ≤ (i 165).toInt ∧ ((-3) : Int32).toInt = -2 ∧ ((i7 165) : Int32).toInt = (i 165).toInt) ∨ (1 ≤ s1.toInt ∧ s1.toInt ≤ 5 ∧ n1.toInt ≤ 12 ∧ (i 165).toInt ≤ 9 ∧ n1.toInt < 0 ∧ ((-3) : Int32).toInt = -3 ∧ ((i7 165) : Int32).toInt = (i 165).toInt) ∨ (1 ≤ s1.toInt ∧ s1.toInt ≤ 5 ∧ n1.toInt ≤ 12 ∧ (i 165).toInt ≤ 9 ∧ 0 ≤ n1.toInt ∧ ((-3) : Int32).toInt = (i 165).toInt ∧ ((i7 165) : Int32).toInt = (i 165).toInt + 1) from by have h54 : ((-3) : Int32).toInt = -3 := (by decide); omega)⟩
        · have f4 := mt (ti_lt (a := (i 165).toInt) (b := 10) rfl (by decide)).mpr c4
          refine lv_bipush (v := (-2)) hx hb dX11_cast_30 (by decide) ?_
          exact rw_iret (i, q, c, d) hx hb hr hlocks hS (hK.sub (tys' := []) [] rfl) hP hD dX11_cast_32 ⟨trivial, hI, fr_w hfi (by decide), fr_w hfc (by decide), (show (¬ (1 ≤ s1.toInt ∧ s1.toInt ≤ 5 ∧ n1.toInt ≤ 12) ∧ ((-2) : Int32).toInt = -1 ∧ ((i 165) : Int32).toInt = (i 165).toInt) ∨ (1 ≤ s1.toInt ∧ s1.toInt ≤ 5 ∧ n1.toInt ≤ 12 ∧ 10 ≤ (i 165).toInt ∧ ((-2) : Int32).toInt = -2 ∧ ((i 165) : Int32).toInt = (i 165).toInt) ∨ (1 ≤ s1.toInt ∧ s1.toInt ≤ 5 ∧ n1.toInt ≤ 12 ∧ (i 165).toInt ≤ 9 ∧ n1.toInt < 0 ∧ ((-2) : Int32).toInt = -3 ∧ ((i 165) : Int32).toInt = (i 165).toInt) ∨ (1 ≤ s1.toInt ∧ s1.toInt ≤ 5 ∧ n1.toInt ≤ 12 ∧ (i 165).toInt ≤ 9 ∧ 0 ≤ n1.toInt ∧ ((-2) : Int32).toInt = (i 165).toInt ∧ ((i 165) : Int32).toInt = (i 165).toInt + 1) from by have h54 : ((-2) : Int32).toInt = -2 := (by decide); omega)⟩
      · have f3 := mt (ti_le (a := n1.toInt) (b := 12) rfl (by decide)).mpr c3
        refine lv_iconst (v := (-1)) hx hb dX11_cast_16 (by decide) ?_
        exact rw_iret (i, q, c, d) hx hb hr hlocks hS (hK.sub (tys' := []) [] rfl) hP hD dX11_cast_17 ⟨trivial, hI, fr_w hfi (by decide), fr_w hfc (by decide), (show (¬ (1 ≤ s1.toInt ∧ s1.toInt ≤ 5 ∧ n1.toInt ≤ 12) ∧ ((-1) : Int32).toInt = -1 ∧ ((i 165) : Int32).toInt = (i 165).toInt) ∨ (1 ≤ s1.toInt ∧ s1.toInt ≤ 5 ∧ n1.toInt ≤ 12 ∧ 10 ≤ (i 165).toInt ∧ ((-1) : Int32).toInt = -2 ∧ ((i 165) : Int32).toInt = (i 165).toInt) ∨ (1 ≤ s1.toInt ∧ s1.toInt ≤ 5 ∧ n1.toInt ≤ 12 ∧ (i 165).toInt ≤ 9 ∧ n1.toInt < 0 ∧ ((-1) : Int32).toInt = -3 ∧ ((i 165) : Int32).toInt = (i 165).toInt) ∨ (1 ≤ s1.toInt ∧ s1.toInt ≤ 5 ∧ n1.toInt ≤ 12 ∧ (i 165).toInt ≤ 9 ∧ 0 ≤ n1.toInt ∧ ((-1) : Int32).toInt = (i 165).toInt ∧ ((i 165) : Int32).toInt = (i 165).toInt + 1) from by have h54 : ((-1) : Int32).toInt = -1 := (by decide); omega)⟩

set_option maxHeartbeats 4000000 in
set_option maxRecDepth 100000 in
theorem s_X12_cast_e (l : Launch) (D : va_G) (sz : Nat) (o : Nat) (a : Nat → Nat) (t : Nat → ClassId) (i : Nat → Int32) (q : Int64) (c : Nat → Nat → Int32) (d : Nat → Nat → Int64) (s1 : Int32) (n1 : Int32) (hI : mInv i c) : Met l yX12_cast wm_X12_cast ({ frames := 1, cells := 0, slots := 0, locals := 25 }) (va_Pc [.ref o, .int s1, .int n1] (pB D sz (mW o a t i q c d) (mT t))) (va_Qi (fun (r : Int32) (u : MS) => True ∧ mInv u.1 u.2.2.1 ∧ (∀ k, k ∉ ([0, 64] : List Nat) → u.1 k = i k) ∧ (∀ k, k ∉ ([1, 65, 66, 67] : List Nat) → u.2.2.1 k = c k) ∧ ((¬ (1 ≤ s1.toInt ∧ s1.toInt ≤ 5 ∧ n1.toInt ≤ 12) ∧ r.toInt = -1 ∧ (u.1 64).toInt = (i 64).toInt) ∨ (1 ≤ s1.toInt ∧ s1.toInt ≤ 5 ∧ n1.toInt ≤ 12 ∧ 10 ≤ (i 64).toInt ∧ r.toInt = -2 ∧ (u.1 64).toInt = (i 64).toInt) ∨ (1 ≤ s1.toInt ∧ s1.toInt ≤ 5 ∧ n1.toInt ≤ 12 ∧ (i 64).toInt ≤ 9 ∧ n1.toInt < 0 ∧ r.toInt = -3 ∧ (u.1 64).toInt = (i 64).toInt) ∨ (1 ≤ s1.toInt ∧ s1.toInt ≤ 5 ∧ n1.toInt ≤ 12 ∧ (i 64).toInt ≤ 9 ∧ 0 ≤ n1.toInt ∧ r.toInt = (i 64).toInt ∧ (u.1 64).toInt = (i 64).toInt + 1))) (oC D (va_A (mW o a t i q c d) sz) (fun u : MS => mW o a t u.1 u.2.1 u.2.2.1 u.2.2.2) (fun _ => [])) (va_A (mW o a t i q c d) sz)) 0 0 (va_A (mW o a t i q c d) sz) := by
  refine Met.ofW (cc := cX12_cast) (maxL := 4) (ret := (some .int)) (by decide) rfl ?_
  intro p e s m args below meth cd s₁ B hml hv
  obtain ⟨rfl, hsz, hP, hK, hD0⟩ := hv
  have hx := B.exec
  have hb := B.bytes
  have hr := B.returns
  have hts := atoms_spec (ws := wm_X12_cast) B.pre
  have hown : s.vm.findClass RX12 = some m.cls := findClass_of_methodNamed B.named
  have hlocks := B.notSynchronized
  subst hsz
  have hD := hD0.self (sz := s.heap.size)
  generalize hAe : va_A (mW o a t i q c d) s.heap.size = A at hD ⊢
  have hA : ∀ q : Nat, s.heap.size ≤ q → A q := fun q h => by rw [← hAe]; exact Or.inr h
  have hS : va_S A s.heap s.heap [] := va_S.rf
  have hfi : ∀ k, k ∉ ([] : List Nat) → i k = i k := fun _ _ => rfl
  have hfc : ∀ k, k ∉ ([] : List Nat) → c k = c k := fun _ _ => rfl
  have hl := lv_entry ([.ref o, .int s1, .int n1]) (n := 4) (Nat.le_of_ble_eq_true rfl)
  rw [lg_entry_eq]
  generalize (lg_sl ([.ref o, .int s1, .int n1]) ++ List.replicate (4 - (lg_sl ([.ref o, .int s1, .int n1])).length) Slot.unset).toArray = ls at hl ⊢
  have hl : lv_has ls 4 [(0, .ref o), (1, .int s1), (2, .int n1)] := hl
  have rb64_i : 0 ≤ (i 64).toInt ∧ (i 64).toInt ≤ 10 := hI.1 64
  refine lv_iload_n hx hb dX12_cast_0 rfl (lv_at hl 1 rfl) ?_
  refine lv_i2l (v := s1.toInt64) hx hb dX12_cast_1 rfl ?_
  refine lv_lconst (v := 1) hx hb dX12_cast_2 (by decide) ?_
  refine lv_ldc2 (v := 5) hx hb hown (hts (.constantLong RX12 170 (5)) (List.mem_cons_of_mem _ (List.mem_append_left _ (List.mem_of_getElem? (i := 0) rfl)))) dX12_cast_3 ?_
  have hPc := hP.sub (ws' := []) [] rfl
  have hKc := hK.sub (tys' := []) [] rfl
  refine ro_calli (va_runS (As := [.long s1.toInt64, .long 1, .long 5]) (rest := []) ⟨hx, hb, hml, hown, hts⟩ (c_X12_in l D s.heap.size s1.toInt64 1 5 s1.toInt 1 5 ((Int32.toInt_toInt64 s1).trans rfl) (by decide) (by decide)) (va_cwS 3 hts gm_X12_cast_X12_in rfl rfl rfl (by decide +kernel) ⟨Nat.le_of_ble_eq_true rfl, Nat.le_of_ble_eq_true rfl⟩) (pA_S hKc hPc) rfl rfl hl.1 rfl (lv_room (Nat.le_of_ble_eq_true rfl)) dX12_cast_6 ⟨Nat.le_of_ble_eq_true rfl, Nat.le_of_ble_eq_true rfl⟩) hS hA hP (fun r1 u1 H locs hw1 hP hS => ?_)
  have hw1 : r1 = if (1 ≤ s1.toInt ∧ s1.toInt ≤ 5) then 1 else 0 := hw1
  refine lv_if_eq (tgt := 18) hx hb dX12_cast_9 (by decide) (fun c2 => ?_) (fun c2 => ?_)
  · have f2 := fl_f hw1 c2
    refine lv_iconst (v := (-1)) hx hb dX12_cast_18 (by decide) ?_
    exact rw_iret (i, q, c, d) hx hb hr hlocks hS (hK.sub (tys' := []) [] rfl) hP hD dX12_cast_19 ⟨trivial, hI, fr_w hfi (by decide), fr_w hfc (by decide), (show (¬ (1 ≤ s1.toInt ∧ s1.toInt ≤ 5 ∧ n1.toInt ≤ 12) ∧ ((-1) : Int32).toInt = -1 ∧ ((i 64) : Int32).toInt = (i 64).toInt) ∨ (1 ≤ s1.toInt ∧ s1.toInt ≤ 5 ∧ n1.toInt ≤ 12 ∧ 10 ≤ (i 64).toInt ∧ ((-1) : Int32).toInt = -2 ∧ ((i 64) : Int32).toInt = (i 64).toInt) ∨ (1 ≤ s1.toInt ∧ s1.toInt ≤ 5 ∧ n1.toInt ≤ 12 ∧ (i 64).toInt ≤ 9 ∧ n1.toInt < 0 ∧ ((-1) : Int32).toInt = -3 ∧ ((i 64) : Int32).toInt = (i 64).toInt) ∨ (1 ≤ s1.toInt ∧ s1.toInt ≤ 5 ∧ n1.toInt ≤ 12 ∧ (i 64).toInt ≤ 9 ∧ 0 ≤ n1.toInt ∧ ((-1) : Int32).toInt = (i 64).toInt ∧ ((i 64) : Int32).toInt = (i 64).toInt + 1) from by have h54 : ((-1) : Int32).toInt = -1 := (by decide); omega)⟩
  · have f2 := fl_t hw1 c2
    refine lv_iload_n hx hb dX12_cast_12 rfl (lv_at hl 2 rfl) ?_
    refine lv_bipush (v := 12) hx hb dX12_cast_13 (by decide) ?_
    refine lv_icmp_le (tgt := 20) hx hb dX12_cast_15 (by decide) (fun c3 => ?_) (fun c3 => ?_)
    · have f3 := (ti_le (a := n1.toInt) (b := 12) rfl (by decide)).mp c3
      refine lv_aload_n hx hb dX12_cast_20 rfl (lv_at hl 0 rfl) ?_
      refine mget_64 (v := (i 64)) rfl hx hb hts (fun _ h => List.mem_cons_of_mem _ (List.mem_append_right _ h)) hown hK hP (hts (.fieldLink RX12 450 "TalePlayModel" "casts" "I") (List.mem_cons_of_mem _ (List.mem_append_left _ (List.mem_of_getElem? (i := 5) rfl)))) dX12_cast_21 ?_
      refine lv_bipush (v := 10) hx hb dX12_cast_24 (by decide) ?_
      refine lv_icmp_ne (tgt := 32) hx hb dX12_cast_26 (by decide) (fun c4 => ?_) (fun c4 => ?_)
      · have f4 := mt (ti_eq (a := (i 64).toInt) (b := 10) rfl (by decide)).mpr c4
        refine lv_iload_n hx hb dX12_cast_32 rfl (lv_at hl 2 rfl) ?_
        refine lv_if_ge (tgt := 42) hx hb dX12_cast_33 (by decide) (fun c5 => ?_) (fun c5 => ?_)
        · have f5 := (ti_le (a := 0) (b := n1.toInt) (by decide) rfl).mp c5
          refine lv_aload_n hx hb dX12_cast_42 rfl (lv_at hl 0 rfl) ?_
          refine mget_65 hx hb hts (fun _ h => List.mem_cons_of_mem _ (List.mem_append_right _ h)) hown hK hP (hts (.fieldLink RX12 139 "TalePlayModel" "castSort" "[I") (List.mem_cons_of_mem _ (List.mem_append_left _ (List.mem_of_getElem? (i := 6) rfl)))) dX12_cast_43 ?_
          refine lv_aload_n hx hb dX12_cast_46 rfl (lv_at hl 0 rfl) ?_
          refine mget_64 (v := (i 64)) rfl hx hb hts (fun _ h => List.mem_cons_of_mem _ (List.mem_append_right _ h)) hown hK hP (hts (.fieldLink RX12 450 "TalePlayModel" "casts" "I") (List.mem_cons_of_mem _ (List.mem_append_left _ (List.mem_of_getElem? (i := 5) rfl)))) dX12_cast_47 ?_
          refine lv_iload_n hx hb dX12_cast_50 rfl (lv_at hl 1 rfl) ?_
          refine mst_65 hx hb hK hP hD hS (vp_in_iff.mpr (by have h9 : (i 64).toInt = (i 64).toInt := rfl; omega)) dX12_cast_51 (fun H locs hP hD hS => ?_)
          have hI := mInv_c hI (k := 65) (j := ((i 64) : Int32).toNatClampNeg) (x := s1) (show 0 ≤ (s1 : Int32).toInt ∧ (s1 : Int32).toInt ≤ 5 from by omega)
          have hfc : ∀ k, k ∉ ([65] : List Nat) → (updA c 65 ((i 64) : Int32).toNatClampNeg s1) k = c k := fr_cz hfc (by decide) (by decide)
          refine lv_aload_n hx hb dX12_cast_52 rfl (lv_at hl 0 rfl) ?_
          refine mget_66 hx hb hts (fun _ h => List.mem_cons_of_mem _ (List.mem_append_right _ h)) hown hK hP (hts (.fieldLink RX12 142 "TalePlayModel" "castMany" "[I") (List.mem_cons_of_mem _ (List.mem_append_left _ (List.mem_of_getElem? (i := 7) rfl)))) dX12_cast_53 ?_
          refine lv_aload_n hx hb dX12_cast_56 rfl (lv_at hl 0 rfl) ?_
          refine mget_64 (v := (i 64)) rfl hx hb hts (fun _ h => List.mem_cons_of_mem _ (List.mem_append_right _ h)) hown hK hP (hts (.fieldLink RX12 450 "TalePlayModel" "casts" "I") (List.mem_cons_of_mem _ (List.mem_append_left _ (List.mem_of_getElem? (i := 5) rfl)))) dX12_cast_57 ?_
          refine lv_iload_n hx hb dX12_cast_60 rfl (lv_at hl 2 rfl) ?_
          refine mst_66 hx hb hK hP hD hS (vp_in_iff.mpr (by have h9 : (i 64).toInt = (i 64).toInt := rfl; omega)) dX12_cast_61 (fun H locs hP hD hS => ?_)
          have hI := mInv_c hI (k := 66) (j := ((i 64) : Int32).toNatClampNeg) (x := n1) (show 0 ≤ (n1 : Int32).toInt ∧ (n1 : Int32).toInt ≤ 12 from by omega)
          have hfc : ∀ k, k ∉ ([65, 66] : List Nat) → (updA (updA c 65 ((i 64) : Int32).toNatClampNeg s1) 66 ((i 64) : Int32).toNatClampNeg n1) k = c k := fr_cz hfc (by decide) (by decide)
          refine lv_iconst (v := 0) hx hb dX12_cast_62 (by decide) ?_
          refine lv_istore_n (lv' := [(3, .int 0), (0, .ref o), (1, .int s1), (2, .int n1)]) hx hb dX12_cast_63 rfl hl (by decide) rfl (fun ls hl => ?_)
          have lp6 : ∀ (fu : Nat) (i6 : Nat → Int32) (q6 : Int64) (c6 : Nat → Nat → Int32) (d6 : Nat → Nat → Int64) (y6_3 : Int32), mInv i6 c6 → (∀ k, k ∉ ([] : List Nat) → i6 k = i k) → (∀ k, k ∉ ([65, 66, 67] : List Nat) → c6 k = c k) → (0 ≤ y6_3.toInt ∧ y6_3.toInt ≤ 12) → (((i6 64) : Int32).toInt = (i 64).toInt) → (12 - y6_3.toInt).toNat < fu → ∀ (H : Heap) (locs : List Loc) (ls : Array Slot), va_P D vwCl (mW o a t i6 q6 c6 d6) H → va_D A (mW o a t i6 q6 c6 d6) → va_S A s.heap H locs → lv_has ls 4 [(3, .int y6_3), (0, .ref o), (1, .int s1), (2, .int n1)] → W p l e (headSpec wm_X12_cast ({ frames := 1, cells := 0, slots := 0, locals := 25 })).room s m ([.ref o, .int s1, .int n1] : List Value).toArray below meth cd H locs 0 0 (MQ below (va_Qi (fun (r : Int32) (u : MS) => True ∧ mInv u.1 u.2.2.1 ∧ (∀ k, k ∉ ([0, 64] : List Nat) → u.1 k = i k) ∧ (∀ k, k ∉ ([1, 65, 66, 67] : List Nat) → u.2.2.1 k = c k) ∧ ((¬ (1 ≤ s1.toInt ∧ s1.toInt ≤ 5 ∧ n1.toInt ≤ 12) ∧ r.toInt = -1 ∧ (u.1 64).toInt = (i 64).toInt) ∨ (1 ≤ s1.toInt ∧ s1.toInt ≤ 5 ∧ n1.toInt ≤ 12 ∧ 10 ≤ (i 64).toInt ∧ r.toInt = -2 ∧ (u.1 64).toInt = (i 64).toInt) ∨ (1 ≤ s1.toInt ∧ s1.toInt ≤ 5 ∧ n1.toInt ≤ 12 ∧ (i 64).toInt ≤ 9 ∧ n1.toInt < 0 ∧ r.toInt = -3 ∧ (u.1 64).toInt = (i 64).toInt) ∨ (1 ≤ s1.toInt ∧ s1.toInt ≤ 5 ∧ n1.toInt ≤ 12 ∧ (i 64).toInt ≤ 9 ∧ 0 ≤ n1.toInt ∧ r.toInt = (i 64).toInt ∧ (u.1 64).toInt = (i 64).toInt + 1))) (oC D A (fun u : MS => mW o a t u.1 u.2.1 u.2.2.1 u.2.2.2) (fun _ => [])) A) ([.ref o, .int s1, .int n1] : List Value).toArray s 0 0 A) (F0 m 64 ls []) := by
            intro fu
            induction fu with
            | zero => intro i6 q6 c6 d6 y6_3 hI hfi hfc hy6_3 hz6_0 hm; exact absurd hm (Nat.not_lt_zero _)
            | succ fu ih =>
              intro i6 q6 c6 d6 y6_3 hI hfi hfc hy6_3 hz6_0 hm H locs ls hP hD hS hl
              have ih6 := ih
              refine lv_iload_n hx hb dX12_cast_64 rfl (lv_at hl 0 rfl) ?_
              refine lv_bipush (v := 12) hx hb dX12_cast_65 (by decide) ?_
              refine lv_icmp_ge (tgt := 92) hx hb dX12_cast_67 (by decide) (fun c7 => ?_) (fun c7 => ?_)
              · have f7 := (ti_le (a := 12) (b := y6_3.toInt) (by decide) rfl).mp c7
                refine lv_aload_n hx hb dX12_cast_92 rfl (lv_at hl 1 rfl) ?_
                refine lv_dup hx hb dX12_cast_93 rfl ?_
                refine mget_64 (v := (i6 64)) rfl hx hb hts (fun _ h => List.mem_cons_of_mem _ (List.mem_append_right _ h)) hown hK hP (hts (.fieldLink RX12 450 "TalePlayModel" "casts" "I") (List.mem_cons_of_mem _ (List.mem_append_left _ (List.mem_of_getElem? (i := 5) rfl)))) dX12_cast_94 ?_
                have rb64_i6 : 0 ≤ (i6 64).toInt ∧ (i6 64).toInt ≤ 10 := hI.1 64
                have re64_i6 : (i6 64).toInt = (i 64).toInt := congrArg Int32.toInt (hfi 64 (by decide))
                refine lv_iconst (v := 1) hx hb dX12_cast_97 (by decide) ?_
                refine lv_iadd hx hb dX12_cast_98 ?_
                refine lv_topi (fun x8 ex8 => ?_)
                have tx8 := ti_add (a := (i6 64).toInt) (b := 1) ex8 rfl (by decide) (by omega) (by omega)
                refine mput_64 hx hb hts (fun _ h => List.mem_cons_of_mem _ (List.mem_append_right _ h)) hown hK hP hD hS (hts (.fieldLink RX12 450 "TalePlayModel" "casts" "I") (List.mem_cons_of_mem _ (List.mem_append_left _ (List.mem_of_getElem? (i := 5) rfl)))) rfl rfl dX12_cast_99 (fun H locs hP hD hS => ?_)
                have hI := mInv_i hI (k := 64) (v := x8) (show 0 ≤ (x8 : Int32).toInt ∧ (x8 : Int32).toInt ≤ 10 from by have h9 : x8.toInt = ((i6 64).toInt + 1) := tx8; omega)
                have hfi : ∀ k, k ∉ ([64] : List Nat) → (upd i6 64 x8) k = i k := fr_iz hfi (by decide) (by decide)
                refine lv_aload_n hx hb dX12_cast_102 rfl (lv_at hl 1 rfl) ?_
                refine mget_64 (i := (upd i6 64 x8)) (v := x8) rfl hx hb hts (fun _ h => List.mem_cons_of_mem _ (List.mem_append_right _ h)) hown hK hP (hts (.fieldLink RX12 450 "TalePlayModel" "casts" "I") (List.mem_cons_of_mem _ (List.mem_append_left _ (List.mem_of_getElem? (i := 5) rfl)))) dX12_cast_103 ?_
                refine lv_iconst (v := 1) hx hb dX12_cast_106 (by decide) ?_
                refine lv_isub hx hb dX12_cast_107 ?_
                refine lv_topi (fun x9 ex9 => ?_)
                have tx9 := ti_sub (a := ((i6 64).toInt + 1)) (b := 1) ex9 tx8 (by decide) (by omega) (by omega)
                exact rw_iret ((upd i6 64 x8), q6, c6, d6) hx hb hr hlocks hS (hK.sub (tys' := []) [] rfl) hP hD dX12_cast_108 ⟨trivial, hI, fr_w hfi (by decide), fr_w hfc (by decide), (show (¬ (1 ≤ s1.toInt ∧ s1.toInt ≤ 5 ∧ n1.toInt ≤ 12) ∧ (x9 : Int32).toInt = -1 ∧ (x8 : Int32).toInt = (i 64).toInt) ∨ (1 ≤ s1.toInt ∧ s1.toInt ≤ 5 ∧ n1.toInt ≤ 12 ∧ 10 ≤ (i 64).toInt ∧ (x9 : Int32).toInt = -2 ∧ (x8 : Int32).toInt = (i 64).toInt) ∨ (1 ≤ s1.toInt ∧ s1.toInt ≤ 5 ∧ n1.toInt ≤ 12 ∧ (i 64).toInt ≤ 9 ∧ n1.toInt < 0 ∧ (x9 : Int32).toInt = -3 ∧ (x8 : Int32).toInt = (i 64).toInt) ∨ (1 ≤ s1.toInt ∧ s1.toInt ≤ 5 ∧ n1.toInt ≤ 12 ∧ (i 64).toInt ≤ 9 ∧ 0 ≤ n1.toInt ∧ (x9 : Int32).toInt = (i 64).toInt ∧ (x8 : Int32).toInt = (i 64).toInt + 1) from by have h50 : x8.toInt = ((i6 64).toInt + 1) := tx8; have h51 : x8.toInt = ((i6 64).toInt + 1) := tx8; have h52 : x8.toInt = ((i6 64).toInt + 1) := tx8; have h53 : x8.toInt = ((i6 64).toInt + 1) := tx8; have h54 : x9.toInt = (((i6 64).toInt + 1) - 1) := tx9; omega)⟩
              · have f7 := mt (ti_le (a := 12) (b := y6_3.toInt) (by decide) rfl).mpr c7
                refine lv_aload_n hx hb dX12_cast_70 rfl (lv_at hl 1 rfl) ?_
                refine mget_67 hx hb hts (fun _ h => List.mem_cons_of_mem _ (List.mem_append_right _ h)) hown hK hP (hts (.fieldLink RX12 145 "TalePlayModel" "roles" "[I") (List.mem_cons_of_mem _ (List.mem_append_left _ (List.mem_of_getElem? (i := 8) rfl)))) dX12_cast_71 ?_
                refine lv_bipush (v := 12) hx hb dX12_cast_74 (by decide) ?_
                refine lv_aload_n hx hb dX12_cast_76 rfl (lv_at hl 1 rfl) ?_
                refine mget_64 (v := (i6 64)) rfl hx hb hts (fun _ h => List.mem_cons_of_mem _ (List.mem_append_right _ h)) hown hK hP (hts (.fieldLink RX12 450 "TalePlayModel" "casts" "I") (List.mem_cons_of_mem _ (List.mem_append_left _ (List.mem_of_getElem? (i := 5) rfl)))) dX12_cast_77 ?_
                have rb64_i6 : 0 ≤ (i6 64).toInt ∧ (i6 64).toInt ≤ 10 := hI.1 64
                have re64_i6 : (i6 64).toInt = (i 64).toInt := congrArg Int32.toInt (hfi 64 (by decide))
                refine lv_imul hx hb dX12_cast_80 ?_
                refine lv_topi (fun x10 ex10 => ?_)
                have tx10 := ti_mul (a := 12) (b := (i6 64).toInt) ex10 (by decide) rfl (by omega) (by omega)
                refine lv_iload_n hx hb dX12_cast_81 rfl (lv_at hl 0 rfl) ?_
                refine lv_iadd hx hb dX12_cast_82 ?_
                refine lv_topi (fun x11 ex11 => ?_)
                have tx11 := ti_add (a := (12 * (i6 64).toInt)) (b := y6_3.toInt) ex11 tx10 rfl (by omega) (by omega)
                refine lv_bipush (v := (-9)) hx hb dX12_cast_83 (by decide) ?_
                refine mst_67 hx hb hK hP hD hS (vp_in_iff.mpr (by have h9 : x11.toInt = ((12 * (i6 64).toInt) + y6_3.toInt) := tx11; omega)) dX12_cast_85 (fun H locs hP hD hS => ?_)
                have hI := mInv_c hI (k := 67) (j := (x11 : Int32).toNatClampNeg) (x := (-9)) (show ((-9) : Int32).toInt = -9 ∨ (0 ≤ ((-9) : Int32).toInt ∧ ((-9) : Int32).toInt ≤ 29) from by have h9 : ((-9) : Int32).toInt = -9 := (by decide); omega)
                have hfc := fr_c hfc (k := 67) (j := (x11 : Int32).toNatClampNeg) (x := (-9)) (by decide)
                obtain ⟨x12, ex12⟩ : ∃ y : Int32, y = y6_3 + 1 := ⟨_, rfl⟩
                have tx12 := ti_add (a := y6_3.toInt) (b := 1) ex12 rfl (by decide) (by omega) (by omega)
                refine lv_iinc (v := x12) (lv' := [(3, .int x12), (0, .ref o), (1, .int s1), (2, .int n1)]) hx hb dX12_cast_86 hl (k := 0) rfl (by rw [ex12]; rfl) (by decide) rfl (fun ls hl => ?_)
                refine lv_goto (tgt := 64) hx hb dX12_cast_89 (by decide) ?_
                exact ih6 i6 q6 (updA c6 67 (x11 : Int32).toNatClampNeg (-9)) d6 x12 hI (fr_w hfi (by decide)) (fr_w hfc (by decide)) (show 0 ≤ x12.toInt ∧ x12.toInt ≤ 12 from by have h50 : x12.toInt = (y6_3.toInt + 1) := tx12; omega) (show ((i6 64) : Int32).toInt = (i 64).toInt from by have h50 : x12.toInt = (y6_3.toInt + 1) := tx12; omega) (by have h50 : x12.toInt = (y6_3.toInt + 1) := tx12; omega) _ _ _ hP hD hS (lv_sub hl [0, 1, 2, 3] rfl)
          exact lp6 _ i q (updA (updA c 65 ((i 64) : Int32).toNatClampNeg s1) 66 ((i 64) : Int32).toNatClampNeg n1) d (0 : Int32) hI (fr_w hfi (by decide)) (fr_w hfc (by decide)) (show 0 ≤ (0 : Int32).toInt ∧ (0 : Int32).toInt ≤ 12 from by have h50 : (0 : Int32).toInt = 0 := (by decide); omega) (show ((i 64) : Int32).toInt = (i 64).toInt from by have h50 : (0 : Int32).toInt = 0 := (by decide); omega) (Nat.lt_succ_self _) _ _ _ hP hD hS (lv_sub hl [0, 1, 2, 3] rfl)
        · have f5 := mt (ti_le (a := 0) (b := n1.toInt) (by decide) rfl).mpr c5
          refine lv_aload_n hx hb dX12_cast_36 rfl (lv_at hl 0 rfl) ?_
          refine lv_iconst (v := 5) hx hb dX12_cast_37 (by decide) ?_
          refine al_calli (va_runV (As := [.int 5]) (rest := []) ⟨hx, hb, hml, hown, hts⟩ (s_X12_meets l D H.size o a t i q c d 5 hI (show 1 ≤ 5 ∧ 5 ≤ 6 from by have h90 : (5 : Int32).toInt = 5 := (by decide); omega)) (cwV 1 hts gm_X12_cast_X12_meets rfl rfl rfl (by decide +kernel) ⟨Nat.le_of_ble_eq_true rfl, Nat.le_of_ble_eq_true rfl⟩) (pB_V hK hP hD (ci := 12) (q0 := 0) rfl rfl) rfl rfl hl.1 rfl (lv_room (Nat.le_of_ble_eq_true rfl)) dX12_cast_38 ⟨Nat.le_of_ble_eq_true rfl, Nat.le_of_ble_eq_true rfl⟩) hS hA hP hD (fun r13 u13 H locs hw13 hP hD hS => ?_)
          obtain ⟨i13, q13, c13, d13⟩ := u13
          have hw13 : r13 = (-3) ∧ mInv i13 c13 ∧ (∀ k, k ∉ ([0] : List Nat) → i13 k = i k) ∧ (∀ k, k ∉ ([1] : List Nat) → c13 k = c k) := hw13
          obtain ⟨hw13, hI, hei13, hec13⟩ := hw13
          have hfi : ∀ k, k ∉ ([0] : List Nat) → i13 k = i k := fr_z hfi hei13 (by decide) (by decide)
          have hfc : ∀ k, k ∉ ([1] : List Nat) → c13 k = c k := fr_z hfc hec13 (by decide) (by decide)
          have hP : va_P D vwCl (mW o a t i13 q13 c13 d13) H := hP
          have hD : va_D A (mW o a t i13 q13 c13 d13) := hD
          have hw13 : r13 = (-3) := hw13
          subst hw13
          have hmd9 : (i13 64).toInt = (i 64).toInt := by rw [show i13 64 = i 64 from hfi 64 (by decide)]
          exact rw_iret (i13, q13, c13, d13) hx hb hr hlocks hS (hK.sub (tys' := []) [] rfl) hP hD dX12_cast_41 ⟨trivial, hI, fr_w hfi (by decide), fr_w hfc (by decide), (show (¬ (1 ≤ s1.toInt ∧ s1.toInt ≤ 5 ∧ n1.toInt ≤ 12) ∧ ((-3) : Int32).toInt = -1 ∧ ((i13 64) : Int32).toInt = (i 64).toInt) ∨ (1 ≤ s1.toInt ∧ s1.toInt ≤ 5 ∧ n1.toInt ≤ 12 ∧ 10 ≤ (i 64).toInt ∧ ((-3) : Int32).toInt = -2 ∧ ((i13 64) : Int32).toInt = (i 64).toInt) ∨ (1 ≤ s1.toInt ∧ s1.toInt ≤ 5 ∧ n1.toInt ≤ 12 ∧ (i 64).toInt ≤ 9 ∧ n1.toInt < 0 ∧ ((-3) : Int32).toInt = -3 ∧ ((i13 64) : Int32).toInt = (i 64).toInt) ∨ (1 ≤ s1.toInt ∧ s1.toInt ≤ 5 ∧ n1.toInt ≤ 12 ∧ (i 64).toInt ≤ 9 ∧ 0 ≤ n1.toInt ∧ ((-3) : Int32).toInt = (i 64).toInt ∧ ((i13 64) : Int32).toInt = (i 64).toInt + 1) from by have h54 : ((-3) : Int32).toInt = -3 := (by decide); omega)⟩
      · have f4 := (ti_eq (a := (i 64).toInt) (b := 10) rfl (by decide)).mp c4
        refine lv_bipush (v := (-2)) hx hb dX12_cast_29 (by decide) ?_
        exact rw_iret (i, q, c, d) hx hb hr hlocks hS (hK.sub (tys' := []) [] rfl) hP hD dX12_cast_31 ⟨trivial, hI, fr_w hfi (by decide), fr_w hfc (by decide), (show (¬ (1 ≤ s1.toInt ∧ s1.toInt ≤ 5 ∧ n1.toInt ≤ 12) ∧ ((-2) : Int32).toInt = -1 ∧ ((i 64) : Int32).toInt = (i 64).toInt) ∨ (1 ≤ s1.toInt ∧ s1.toInt ≤ 5 ∧ n1.toInt ≤ 12 ∧ 10 ≤ (i 64).toInt ∧ ((-2) : Int32).toInt = -2 ∧ ((i 64) : Int32).toInt = (i 64).toInt) ∨ (1 ≤ s1.toInt ∧ s1.toInt ≤ 5 ∧ n1.toInt ≤ 12 ∧ (i 64).toInt ≤ 9 ∧ n1.toInt < 0 ∧ ((-2) : Int32).toInt = -3 ∧ ((i 64) : Int32).toInt = (i 64).toInt) ∨ (1 ≤ s1.toInt ∧ s1.toInt ≤ 5 ∧ n1.toInt ≤ 12 ∧ (i 64).toInt ≤ 9 ∧ 0 ≤ n1.toInt ∧ ((-2) : Int32).toInt = (i 64).toInt ∧ ((i 64) : Int32).toInt = (i 64).toInt + 1) from by have h54 : ((-2) : Int32).toInt = -2 := (by decide); omega)⟩
    · have f3 := mt (ti_le (a := n1.toInt) (b := 12) rfl (by decide)).mpr c3
      refine lv_iconst (v := (-1)) hx hb dX12_cast_18 (by decide) ?_
      exact rw_iret (i, q, c, d) hx hb hr hlocks hS (hK.sub (tys' := []) [] rfl) hP hD dX12_cast_19 ⟨trivial, hI, fr_w hfi (by decide), fr_w hfc (by decide), (show (¬ (1 ≤ s1.toInt ∧ s1.toInt ≤ 5 ∧ n1.toInt ≤ 12) ∧ ((-1) : Int32).toInt = -1 ∧ ((i 64) : Int32).toInt = (i 64).toInt) ∨ (1 ≤ s1.toInt ∧ s1.toInt ≤ 5 ∧ n1.toInt ≤ 12 ∧ 10 ≤ (i 64).toInt ∧ ((-1) : Int32).toInt = -2 ∧ ((i 64) : Int32).toInt = (i 64).toInt) ∨ (1 ≤ s1.toInt ∧ s1.toInt ≤ 5 ∧ n1.toInt ≤ 12 ∧ (i 64).toInt ≤ 9 ∧ n1.toInt < 0 ∧ ((-1) : Int32).toInt = -3 ∧ ((i 64) : Int32).toInt = (i 64).toInt) ∨ (1 ≤ s1.toInt ∧ s1.toInt ≤ 5 ∧ n1.toInt ≤ 12 ∧ (i 64).toInt ≤ 9 ∧ 0 ≤ n1.toInt ∧ ((-1) : Int32).toInt = (i 64).toInt ∧ ((i 64) : Int32).toInt = (i 64).toInt + 1) from by have h54 : ((-1) : Int32).toInt = -1 := (by decide); omega)⟩

def wm_X10_changeStandard_e : List Cond := .code yX10_changeStandard cX10_changeStandard 5 (some .int) :: (([.fieldLink RX10 18 "TalePlay$World" "standards" "[I"] : List Cond) ++ wsX100)
set_option maxHeartbeats 4000000 in
set_option maxRecDepth 100000 in
theorem x_X10_changeStandard_e (l : Launch) (D : va_G) (sz : Nat) (sk : Value) (a : Nat → Nat) (t : Nat → ClassId) (i : Nat → Int32) (q : Int64) (c : Nat → Nat → Int32) (d : Nat → Nat → Int64) (k1 : Int32) (f : Int32) (v1 : Int32) (hI : xInv i c) (hk1 : 0 ≤ k1.toInt ∧ k1.toInt ≤ 23) (hf : 0 ≤ f.toInt ∧ f.toInt ≤ 5) (hv : v1.toInt = -9 ∨ (0 ≤ v1.toInt ∧ v1.toInt ≤ 1)) : Met l yX10_changeStandard wm_X10_changeStandard_e ({ frames := 0, cells := 0, slots := 0, locals := 0 }) (va_Pc [.ref (a 104), .int k1, .int f, .int v1] (yB (a 186) D sz (xwT sk a t i q c d) (xtT t))) (va_Qi (fun (r : Int32) (u : MS) => True ∧ xInv u.1 u.2.2.1 ∧ (∀ k, k ∉ ([] : List Nat) → u.1 k = i k) ∧ (∀ k, k ∉ ([107] : List Nat) → u.2.2.1 k = c k) ∧ (r = (c 107 (k1.toInt * 6 + f.toInt).toNat)) ∧ ((u.2.2.1 107) = upd (c 107) (k1.toInt * 6 + f.toInt).toNat v1)) (oC D (va_A (xwT sk a t i q c d) sz) (fun u : MS => xwT sk a t u.1 u.2.1 u.2.2.1 u.2.2.2) (fun _ => [])) (va_A (xwT sk a t i q c d) sz)) 0 0 (va_A (xwT sk a t i q c d) sz) := by
  refine Met.ofW (cc := cX10_changeStandard) (maxL := 5) (ret := (some .int)) (by decide) rfl ?_
  intro p e s m args below meth cd s₁ B hml hv
  obtain ⟨rfl, ⟨hsz, hP, hK, hD0⟩, hN, hZ, hBW⟩ := hv
  have hx := B.exec
  have hb := B.bytes
  have hr := B.returns
  have hts := atoms_spec (ws := wm_X10_changeStandard_e) B.pre
  have hown : s.vm.findClass RX10 = some m.cls := findClass_of_methodNamed B.named
  have hlocks := B.notSynchronized
  subst hsz
  have hD := hD0.self (sz := s.heap.size)
  have hZ := xZ_A hZ hP hBW
  generalize hAe : va_A (xwT sk a t i q c d) s.heap.size = A at hD hZ ⊢
  have hA : ∀ q : Nat, s.heap.size ≤ q → A q := fun q h => by rw [← hAe]; exact Or.inr h
  have hS : va_S A s.heap s.heap [] := va_S.rf
  have hfi : ∀ k, k ∉ ([] : List Nat) → i k = i k := fun _ _ => rfl
  have hfc : ∀ k, k ∉ ([] : List Nat) → c k = c k := fun _ _ => rfl
  have hl := lv_entry ([.ref (a 104), .int k1, .int f, .int v1]) (n := 5) (Nat.le_of_ble_eq_true rfl)
  rw [lg_entry_eq]
  generalize (lg_sl ([.ref (a 104), .int k1, .int f, .int v1]) ++ List.replicate (5 - (lg_sl ([.ref (a 104), .int k1, .int f, .int v1])).length) Slot.unset).toArray = ls at hl ⊢
  have hl : lv_has ls 5 [(0, .ref (a 104)), (1, .int k1), (2, .int f), (3, .int v1)] := hl
  refine lv_aload_n hx hb dX10_changeStandard_0 rfl (lv_at hl 0 rfl) ?_
  refine xgT_W_standards hx hb hts (fun _ h => List.mem_cons_of_mem _ (List.mem_append_right _ h)) hown hK hP (hts (.fieldLink RX10 18 "TalePlay$World" "standards" "[I") (List.mem_cons_of_mem _ (List.mem_append_left _ (List.mem_of_getElem? (i := 0) rfl)))) dX10_changeStandard_1 ?_
  refine lv_iload_n hx hb dX10_changeStandard_4 rfl (lv_at hl 1 rfl) ?_
  refine lv_bipush (v := 6) hx hb dX10_changeStandard_5 (by decide) ?_
  refine lv_imul hx hb dX10_changeStandard_7 ?_
  refine lv_topi (fun x1 ex1 => ?_)
  have tx1 := ti_mul (a := k1.toInt) (b := 6) ex1 rfl (by decide) (by omega) (by omega)
  refine lv_iload_n hx hb dX10_changeStandard_8 rfl (lv_at hl 2 rfl) ?_
  refine lv_iadd hx hb dX10_changeStandard_9 ?_
  refine lv_topi (fun x2 ex2 => ?_)
  have tx2 := ti_add (a := (k1.toInt * 6)) (b := f.toInt) ex2 tx1 rfl (by omega) (by omega)
  refine xlT_107 hx hb hK hP (vp_in_iff.mpr (by have h9 : x2.toInt = ((k1.toInt * 6) + f.toInt) := tx2; omega)) dX10_changeStandard_10 (fun x3 ex3 => ?_)
  have rx3 : x3.toInt = -9 ∨ (0 ≤ x3.toInt ∧ x3.toInt ≤ 1) := by rw [ex3]; exact hI.2 107 _
  refine lv_istore (lv' := [(4, .int x3), (0, .ref (a 104)), (1, .int k1), (2, .int f), (3, .int v1)]) hx hb dX10_changeStandard_11 hl (by decide) rfl (fun ls hl => ?_)
  refine lv_aload_n hx hb dX10_changeStandard_13 rfl (lv_at hl 1 rfl) ?_
  refine xgT_W_standards hx hb hts (fun _ h => List.mem_cons_of_mem _ (List.mem_append_right _ h)) hown hK hP (hts (.fieldLink RX10 18 "TalePlay$World" "standards" "[I") (List.mem_cons_of_mem _ (List.mem_append_left _ (List.mem_of_getElem? (i := 0) rfl)))) dX10_changeStandard_14 ?_
  refine lv_iload_n hx hb dX10_changeStandard_17 rfl (lv_at hl 2 rfl) ?_
  refine lv_bipush (v := 6) hx hb dX10_changeStandard_18 (by decide) ?_
  refine lv_imul hx hb dX10_changeStandard_20 ?_
  refine lv_topi (fun x4 ex4 => ?_)
  have tx4 := ti_mul (a := k1.toInt) (b := 6) ex4 rfl (by decide) (by omega) (by omega)
  refine lv_iload_n hx hb dX10_changeStandard_21 rfl (lv_at hl 3 rfl) ?_
  refine lv_iadd hx hb dX10_changeStandard_22 ?_
  refine lv_topi (fun x5 ex5 => ?_)
  have tx5 := ti_add (a := (k1.toInt * 6)) (b := f.toInt) ex5 tx4 rfl (by omega) (by omega)
  refine lv_iload_n hx hb dX10_changeStandard_23 rfl (lv_at hl 4 rfl) ?_
  refine xsT_107 hx hb hK hP hD hS (vp_in_iff.mpr (by have h9 : x5.toInt = ((k1.toInt * 6) + f.toInt) := tx5; omega)) dX10_changeStandard_24 (fun H locs hP hD hS => ?_)
  have hI := xInv_c hI (k := 107) (j := (x5 : Int32).toNatClampNeg) (x := v1) (show (v1 : Int32).toInt = -9 ∨ (0 ≤ (v1 : Int32).toInt ∧ (v1 : Int32).toInt ≤ 1) from by omega)
  have hfc : ∀ k, k ∉ ([107] : List Nat) → (updA c 107 (x5 : Int32).toNatClampNeg v1) k = c k := fr_cz hfc (by decide) (by decide)
  refine lv_iload hx hb dX10_changeStandard_25 (lv_at hl 0 rfl) ?_
  exact rw_iret (i, q, (updA c 107 (x5 : Int32).toNatClampNeg v1), d) hx hb hr hlocks hS (hK.sub (tys' := []) [] rfl) hP hD dX10_changeStandard_27 ⟨trivial, hI, fr_w hfi (by decide), fr_w hfc (by decide), (show (x3 : Int32) = (c 107 (k1.toInt * 6 + f.toInt).toNat) from (ix_n (f := c 107) (s := x2) (show (x2 : Int32).toInt = k1.toInt * 6 + f.toInt from by omega) ex3).symm), (show ((updA c 107 (x5 : Int32).toNatClampNeg v1) 107) = upd (c 107) (k1.toInt * 6 + f.toInt).toNat v1 from by show upd (c 107) (x5 : Int32).toNatClampNeg v1 = _; rw [cl_t (show (x5 : Int32).toInt = (k1.toInt * 6 + f.toInt) from by omega)])⟩

def wm_X11_standard_e : List Cond := .code yX11_standard cX11_standard 4 (some .int) :: ((([.fieldLink RX11 10 "TalePlay" "world" "LTalePlay$World;", .methodLink RX11 80 yX10_hasKind, .instanceMethod yX10_hasKind, .selects RX10 yX10_hasKind yX10_hasKind, .initialized RX10, .code yX10_hasKind cX10_hasKind 2 (some .boolean), .fieldLink RX10 33 "TalePlay$World" "kinds" "I", .methodLink RX11 91 yX11_isBelow, .static yX11_isBelow, .initialized RX11, .code yX11_isBelow cX11_isBelow 2 (some .boolean), .fieldLink RX11 46 "TalePlay" "tale" "LTalePlay$Tale;", .methodLink RX11 95 yX9_end, .instanceMethod yX9_end, .selects RX9 yX9_end yX9_end, .initialized RX9] : List Cond) ++ ([.code yX9_end cX9_end 1 none, .fieldLink RX9 72 "TalePlay$Tale" "there" "Z", .fieldLink RX9 77 "TalePlay$Tale" "turns" "I", .methodLink RX11 98 yX10_changeStandard, .instanceMethod yX10_changeStandard, .selects RX10 yX10_changeStandard yX10_changeStandard, .code yX10_changeStandard cX10_changeStandard 5 (some .int), .fieldLink RX10 18 "TalePlay$World" "standards" "[I"] : List Cond)) ++ wsX110 ++ wsX100 ++ wsX90)
set_option maxRecDepth 20000 in
theorem gm_X11_standard_e_X10_hasKind_80 : GoodIn wm_X11_standard_e (wsV RX11 80 RX10 yX10_hasKind wm_X10_hasKind) := goodIn_w (List.forall_mem_append.mpr ⟨List.forall_mem_cons.mpr ⟨List.mem_cons_of_mem _ (List.mem_append_left _ (List.mem_append_left _ (List.mem_append_left _ (List.mem_append_left _ (List.mem_of_getElem? (i := 1) rfl))))), List.forall_mem_cons.mpr ⟨List.mem_cons_of_mem _ (List.mem_append_left _ (List.mem_append_left _ (List.mem_append_left _ (List.mem_append_left _ (List.mem_of_getElem? (i := 2) rfl))))), List.forall_mem_cons.mpr ⟨List.mem_cons_of_mem _ (List.mem_append_left _ (List.mem_append_left _ (List.mem_append_left _ (List.mem_append_left _ (List.mem_of_getElem? (i := 3) rfl))))), List.forall_mem_cons.mpr ⟨List.mem_cons_of_mem _ (List.mem_append_left _ (List.mem_append_left _ (List.mem_append_left _ (List.mem_append_left _ (List.mem_of_getElem? (i := 4) rfl))))), (fun _ h => absurd h List.not_mem_nil)⟩⟩⟩⟩, List.forall_mem_cons.mpr ⟨List.mem_cons_of_mem _ (List.mem_append_left _ (List.mem_append_left _ (List.mem_append_left _ (List.mem_append_left _ (List.mem_of_getElem? (i := 5) rfl))))), List.forall_mem_append.mpr ⟨List.forall_mem_cons.mpr ⟨List.mem_cons_of_mem _ (List.mem_append_left _ (List.mem_append_left _ (List.mem_append_left _ (List.mem_append_left _ (List.mem_of_getElem? (i := 6) rfl))))), (fun _ h => absurd h List.not_mem_nil)⟩, (fun _ h => List.mem_cons_of_mem _ (List.mem_append_left _ (List.mem_append_right _ h)))⟩⟩⟩) (by decide +kernel)
set_option maxRecDepth 20000 in
theorem gm_X11_standard_e_X11_isBelow_91 : GoodIn wm_X11_standard_e (va_wsS RX11 91 yX11_isBelow wm_X11_isBelow) := goodIn_w (List.forall_mem_append.mpr ⟨List.forall_mem_cons.mpr ⟨List.mem_cons_of_mem _ (List.mem_append_left _ (List.mem_append_left _ (List.mem_append_left _ (List.mem_append_left _ (List.mem_of_getElem? (i := 7) rfl))))), List.forall_mem_cons.mpr ⟨List.mem_cons_of_mem _ (List.mem_append_left _ (List.mem_append_left _ (List.mem_append_left _ (List.mem_append_left _ (List.mem_of_getElem? (i := 8) rfl))))), List.forall_mem_cons.mpr ⟨List.mem_cons_of_mem _ (List.mem_append_left _ (List.mem_append_left _ (List.mem_append_left _ (List.mem_append_left _ (List.mem_of_getElem? (i := 9) rfl))))), (fun _ h => absurd h List.not_mem_nil)⟩⟩⟩, List.forall_mem_cons.mpr ⟨List.mem_cons_of_mem _ (List.mem_append_left _ (List.mem_append_left _ (List.mem_append_left _ (List.mem_append_left _ (List.mem_of_getElem? (i := 10) rfl))))), (fun _ h => absurd h List.not_mem_nil)⟩⟩) (by decide +kernel)
set_option maxRecDepth 20000 in
theorem gm_X11_standard_e_X9_end_95 : GoodIn wm_X11_standard_e (wsV RX11 95 RX9 yX9_end wm_X9_end) := goodIn_w (List.forall_mem_append.mpr ⟨List.forall_mem_cons.mpr ⟨List.mem_cons_of_mem _ (List.mem_append_left _ (List.mem_append_left _ (List.mem_append_left _ (List.mem_append_left _ (List.mem_of_getElem? (i := 12) rfl))))), List.forall_mem_cons.mpr ⟨List.mem_cons_of_mem _ (List.mem_append_left _ (List.mem_append_left _ (List.mem_append_left _ (List.mem_append_left _ (List.mem_of_getElem? (i := 13) rfl))))), List.forall_mem_cons.mpr ⟨List.mem_cons_of_mem _ (List.mem_append_left _ (List.mem_append_left _ (List.mem_append_left _ (List.mem_append_left _ (List.mem_of_getElem? (i := 14) rfl))))), List.forall_mem_cons.mpr ⟨List.mem_cons_of_mem _ (List.mem_append_left _ (List.mem_append_left _ (List.mem_append_left _ (List.mem_append_left _ (List.mem_of_getElem? (i := 15) rfl))))), (fun _ h => absurd h List.not_mem_nil)⟩⟩⟩⟩, List.forall_mem_cons.mpr ⟨List.mem_cons_of_mem _ (List.mem_append_left _ (List.mem_append_left _ (List.mem_append_left _ (List.mem_append_right _ (List.mem_of_getElem? (i := 0) rfl))))), List.forall_mem_append.mpr ⟨List.forall_mem_cons.mpr ⟨List.mem_cons_of_mem _ (List.mem_append_left _ (List.mem_append_left _ (List.mem_append_left _ (List.mem_append_right _ (List.mem_of_getElem? (i := 1) rfl))))), List.forall_mem_cons.mpr ⟨List.mem_cons_of_mem _ (List.mem_append_left _ (List.mem_append_left _ (List.mem_append_left _ (List.mem_append_right _ (List.mem_of_getElem? (i := 2) rfl))))), (fun _ h => absurd h List.not_mem_nil)⟩⟩, (fun _ h => List.mem_cons_of_mem _ (List.mem_append_right _ h))⟩⟩⟩) (by decide +kernel)
set_option maxRecDepth 20000 in
theorem gm_X11_standard_e_X10_changeStandard_e_98 : GoodIn wm_X11_standard_e (wsV RX11 98 RX10 yX10_changeStandard wm_X10_changeStandard_e) := goodIn_w (List.forall_mem_append.mpr ⟨List.forall_mem_cons.mpr ⟨List.mem_cons_of_mem _ (List.mem_append_left _ (List.mem_append_left _ (List.mem_append_left _ (List.mem_append_right _ (List.mem_of_getElem? (i := 3) rfl))))), List.forall_mem_cons.mpr ⟨List.mem_cons_of_mem _ (List.mem_append_left _ (List.mem_append_left _ (List.mem_append_left _ (List.mem_append_right _ (List.mem_of_getElem? (i := 4) rfl))))), List.forall_mem_cons.mpr ⟨List.mem_cons_of_mem _ (List.mem_append_left _ (List.mem_append_left _ (List.mem_append_left _ (List.mem_append_right _ (List.mem_of_getElem? (i := 5) rfl))))), List.forall_mem_cons.mpr ⟨List.mem_cons_of_mem _ (List.mem_append_left _ (List.mem_append_left _ (List.mem_append_left _ (List.mem_append_left _ (List.mem_of_getElem? (i := 4) rfl))))), (fun _ h => absurd h List.not_mem_nil)⟩⟩⟩⟩, List.forall_mem_cons.mpr ⟨List.mem_cons_of_mem _ (List.mem_append_left _ (List.mem_append_left _ (List.mem_append_left _ (List.mem_append_right _ (List.mem_of_getElem? (i := 6) rfl))))), List.forall_mem_append.mpr ⟨List.forall_mem_cons.mpr ⟨List.mem_cons_of_mem _ (List.mem_append_left _ (List.mem_append_left _ (List.mem_append_left _ (List.mem_append_right _ (List.mem_of_getElem? (i := 7) rfl))))), (fun _ h => absurd h List.not_mem_nil)⟩, (fun _ h => List.mem_cons_of_mem _ (List.mem_append_left _ (List.mem_append_right _ h)))⟩⟩⟩) (by decide +kernel)
set_option maxHeartbeats 4000000 in
set_option maxRecDepth 100000 in
theorem x_X11_standard_e (l : Launch) (D : va_G) (sz : Nat) (sk : Value) (a : Nat → Nat) (t : Nat → ClassId) (i : Nat → Int32) (q : Int64) (c : Nat → Nat → Int32) (d : Nat → Nat → Int64) (k1 : Int32) (f : Int32) (v1 : Int32) (hI : xInv i c) : Met l yX11_standard wm_X11_standard_e ({ frames := 1, cells := 0, slots := 0, locals := 24 }) (va_Pc [.ref (a 100), .int k1, .int f, .int v1] (yB (a 186) D sz (xwT sk a t i q c d) (xtT t))) (va_Qi (fun (r : Int32) (u : MS) => True ∧ xInv u.1 u.2.2.1 ∧ (∀ k, k ∉ ([146, 148] : List Nat) → u.1 k = i k) ∧ (∀ k, k ∉ ([107] : List Nat) → u.2.2.1 k = c k) ∧ (xEn (i 146) (i 148) (u.1 146) (u.1 148)) ∧ (StR (c 107) k1 f v1 (i 110).toInt r) ∧ (StU (c 107) (u.2.2.1 107) k1 f v1 (i 110).toInt)) (oC D (va_A (xwT sk a t i q c d) sz) (fun u : MS => xwT sk a t u.1 u.2.1 u.2.2.1 u.2.2.2) (fun _ => [])) (va_A (xwT sk a t i q c d) sz)) 0 0 (va_A (xwT sk a t i q c d) sz) := by
  refine Met.ofW (cc := cX11_standard) (maxL := 4) (ret := (some .int)) (by decide) rfl ?_
  intro p e s m args below meth cd s₁ B hml hv
  obtain ⟨rfl, ⟨hsz, hP, hK, hD0⟩, hN, hZ, hBW⟩ := hv
  have hx := B.exec
  have hb := B.bytes
  have hr := B.returns
  have hts := atoms_spec (ws := wm_X11_standard_e) B.pre
  have hown : s.vm.findClass RX11 = some m.cls := findClass_of_methodNamed B.named
  have hlocks := B.notSynchronized
  subst hsz
  have hD := hD0.self (sz := s.heap.size)
  have hZ := xZ_A hZ hP hBW
  generalize hAe : va_A (xwT sk a t i q c d) s.heap.size = A at hD hZ ⊢
  have hA : ∀ q : Nat, s.heap.size ≤ q → A q := fun q h => by rw [← hAe]; exact Or.inr h
  have hS : va_S A s.heap s.heap [] := va_S.rf
  have hfi : ∀ k, k ∉ ([] : List Nat) → i k = i k := fun _ _ => rfl
  have hfc : ∀ k, k ∉ ([] : List Nat) → c k = c k := fun _ _ => rfl
  have hl := lv_entry ([.ref (a 100), .int k1, .int f, .int v1]) (n := 4) (Nat.le_of_ble_eq_true rfl)
  rw [lg_entry_eq]
  generalize (lg_sl ([.ref (a 100), .int k1, .int f, .int v1]) ++ List.replicate (4 - (lg_sl ([.ref (a 100), .int k1, .int f, .int v1])).length) Slot.unset).toArray = ls at hl ⊢
  have hl : lv_has ls 4 [(0, .ref (a 100)), (1, .int k1), (2, .int f), (3, .int v1)] := hl
  have rb110_i : 6 ≤ (i 110).toInt ∧ (i 110).toInt ≤ 24 := hI.1 110
  refine lv_aload_n hx hb dX11_standard_0 rfl (lv_at hl 0 rfl) ?_
  refine xgT_X_world hx hb hts (fun _ h => List.mem_cons_of_mem _ (List.mem_append_left _ (List.mem_append_left _ (List.mem_append_right _ h)))) hown hK hP (hts (.fieldLink RX11 10 "TalePlay" "world" "LTalePlay$World;") (List.mem_cons_of_mem _ (List.mem_append_left _ (List.mem_append_left _ (List.mem_append_left _ (List.mem_append_left _ (List.mem_of_getElem? (i := 0) rfl))))))) dX11_standard_1 ?_
  refine lv_iload_n hx hb dX11_standard_4 rfl (lv_at hl 1 rfl) ?_
  refine ro_calli (va_runV (As := [.int k1]) (rest := []) ⟨hx, hb, hml, hown, hts⟩ (x_X10_hasKind l D s.heap.size .null a t i q c d k1 hI ) (cwV 1 hts gm_X11_standard_e_X10_hasKind_80 rfl rfl rfl (by decide +kernel) ⟨Nat.le_of_ble_eq_true rfl, Nat.le_of_ble_eq_true rfl⟩) (yA_V hN (xZ_k hZ hS hA) (xkT_W hK) (xuT_W (sk := sk) hP) (ci := 10) (q0 := 0) rfl rfl) rfl rfl hl.1 rfl (lv_room (Nat.le_of_ble_eq_true rfl)) dX11_standard_5 ⟨Nat.le_of_ble_eq_true rfl, Nat.le_of_ble_eq_true rfl⟩) hS hA hP (fun r1 u1 H locs hw1 hP hS => ?_)
  have hw1 : r1 = if (0 ≤ k1.toInt ∧ k1.toInt < (i 110).toInt) then 1 else 0 := hw1
  refine lv_if_eq (tgt := 35) hx hb dX11_standard_8 (by decide) (fun c2 => ?_) (fun c2 => ?_)
  · have f2 := fl_f hw1 c2
    refine lv_iconst (v := (-1)) hx hb dX11_standard_35 (by decide) ?_
    exact rw_iret (i, q, c, d) hx hb hr hlocks hS (hK.sub (tys' := []) [] rfl) hP hD dX11_standard_36 ⟨trivial, hI, fr_w hfi (by decide), fr_w hfc (by decide), (show xEn (i 146) (i 148) ((i 146) : Int32) ((i 148) : Int32) from Or.inr ⟨rfl, rfl⟩), (show StR (c 107) k1 f v1 (i 110).toInt ((-1) : Int32) from Or.inl ⟨by unfold StB; omega, by decide⟩), (show StU (c 107) (c 107) k1 f v1 (i 110).toInt from Or.inl ⟨by unfold StB; omega, rfl⟩)⟩
  · have f2 := fl_t hw1 c2
    refine lv_iload_n hx hb dX11_standard_11 rfl (lv_at hl 2 rfl) ?_
    refine lv_bipush (v := 6) hx hb dX11_standard_12 (by decide) ?_
    have hPc := hP.sub (ws' := []) [] rfl
    have hKc := hK.sub (tys' := []) [] rfl
    refine ro_calli (va_runS (As := [.int f, .int 6]) (rest := []) ⟨hx, hb, hml, hown, hts⟩ (c_X11_isBelow l D H.size f 6 f.toInt 6 rfl (by decide)) (va_cwS 2 hts gm_X11_standard_e_X11_isBelow_91 rfl rfl rfl (by decide +kernel) ⟨Nat.le_of_ble_eq_true rfl, Nat.le_of_ble_eq_true rfl⟩) (pA_S hKc hPc) rfl rfl hl.1 rfl (lv_room (Nat.le_of_ble_eq_true rfl)) dX11_standard_14 ⟨Nat.le_of_ble_eq_true rfl, Nat.le_of_ble_eq_true rfl⟩) hS hA hP (fun r4 u4 H locs hw4 hP hS => ?_)
    have hw4 : r4 = if (0 ≤ f.toInt ∧ f.toInt < 6) then 1 else 0 := hw4
    refine lv_if_eq (tgt := 35) hx hb dX11_standard_17 (by decide) (fun c5 => ?_) (fun c5 => ?_)
    · have f5 := fl_f hw4 c5
      refine lv_iconst (v := (-1)) hx hb dX11_standard_35 (by decide) ?_
      exact rw_iret (i, q, c, d) hx hb hr hlocks hS (hK.sub (tys' := []) [] rfl) hP hD dX11_standard_36 ⟨trivial, hI, fr_w hfi (by decide), fr_w hfc (by decide), (show xEn (i 146) (i 148) ((i 146) : Int32) ((i 148) : Int32) from Or.inr ⟨rfl, rfl⟩), (show StR (c 107) k1 f v1 (i 110).toInt ((-1) : Int32) from Or.inl ⟨by unfold StB; omega, by decide⟩), (show StU (c 107) (c 107) k1 f v1 (i 110).toInt from Or.inl ⟨by unfold StB; omega, rfl⟩)⟩
    · have f5 := fl_t hw4 c5
      refine lv_iload_n hx hb dX11_standard_20 rfl (lv_at hl 3 rfl) ?_
      refine lv_if_eq (tgt := 37) hx hb dX11_standard_21 (by decide) (fun c6 => ?_) (fun c6 => ?_)
      · have f6 := (ti_eq (a := v1.toInt) (b := 0) rfl (by decide)).mp c6
        refine lv_aload_n hx hb dX11_standard_37 rfl (lv_at hl 0 rfl) ?_
        refine xgT_X_tale hx hb hts (fun _ h => List.mem_cons_of_mem _ (List.mem_append_left _ (List.mem_append_left _ (List.mem_append_right _ h)))) hown hK hP (hts (.fieldLink RX11 46 "TalePlay" "tale" "LTalePlay$Tale;") (List.mem_cons_of_mem _ (List.mem_append_left _ (List.mem_append_left _ (List.mem_append_left _ (List.mem_append_left _ (List.mem_of_getElem? (i := 11) rfl))))))) dX11_standard_38 ?_
        refine al_callv (va_runV (As := []) (rest := []) ⟨hx, hb, hml, hown, hts⟩ (x_X9_end l D H.size sk a t i q c d  hI ) (cwV 0 hts gm_X11_standard_e_X9_end_95 rfl rfl rfl (by decide +kernel) ⟨Nat.le_of_ble_eq_true rfl, Nat.le_of_ble_eq_true rfl⟩) (yB_V hN (xZ_k hZ hS hA) (xZ_n hZ hD) hK hP hD (ci := 9) (q0 := 33) rfl rfl) rfl rfl hl.1 rfl (lv_room (Nat.le_of_ble_eq_true rfl)) dX11_standard_41 ⟨Nat.le_of_ble_eq_true rfl, Nat.le_of_ble_eq_true rfl⟩) hS hA hP hD (fun u7 H locs hw7 hP hD hS => ?_)
        obtain ⟨i7, q7, c7, d7⟩ := u7
        have hw7 : True ∧ xInv i7 c7 ∧ (∀ k, k ∉ ([146, 148] : List Nat) → i7 k = i k) ∧ (∀ k, k ∉ ([] : List Nat) → c7 k = c k) ∧ ((i7 146).toInt = 0) ∧ ((i7 148).toInt = 0) := hw7
        obtain ⟨hw7, hI, hei7, hec7, hxp7_0, hxp7_1⟩ := hw7
        have hxp7_0 : (i7 146).toInt = 0 := hxp7_0
        have hxp7_1 : (i7 148).toInt = 0 := hxp7_1
        have hfi : ∀ k, k ∉ ([146, 148] : List Nat) → i7 k = i k := fr_z hfi hei7 (by decide) (by decide)
        have hfc : ∀ k, k ∉ ([] : List Nat) → c7 k = c k := fr_z hfc hec7 (by decide) (by decide)
        have hen : (i7 146).toInt = 0 := hxp7_0
        refine lv_aload_n hx hb dX11_standard_44 rfl (lv_at hl 0 rfl) ?_
        refine xgT_X_world hx hb hts (fun _ h => List.mem_cons_of_mem _ (List.mem_append_left _ (List.mem_append_left _ (List.mem_append_right _ h)))) hown hK hP (hts (.fieldLink RX11 10 "TalePlay" "world" "LTalePlay$World;") (List.mem_cons_of_mem _ (List.mem_append_left _ (List.mem_append_left _ (List.mem_append_left _ (List.mem_append_left _ (List.mem_of_getElem? (i := 0) rfl))))))) dX11_standard_45 ?_
        refine lv_iload_n hx hb dX11_standard_48 rfl (lv_at hl 1 rfl) ?_
        refine lv_iload_n hx hb dX11_standard_49 rfl (lv_at hl 2 rfl) ?_
        refine lv_iload_n hx hb dX11_standard_50 rfl (lv_at hl 3 rfl) ?_
        refine al_calli (va_runV (As := [.int k1, .int f, .int v1]) (rest := []) ⟨hx, hb, hml, hown, hts⟩ (x_X10_changeStandard_e l D H.size sk a t i7 q7 c7 d7 k1 f v1 hI (show 0 ≤ k1.toInt ∧ k1.toInt ≤ 23 from by omega) (show 0 ≤ f.toInt ∧ f.toInt ≤ 5 from by omega) (show v1.toInt = -9 ∨ (0 ≤ v1.toInt ∧ v1.toInt ≤ 1) from by omega)) (cwV 3 hts gm_X11_standard_e_X10_changeStandard_e_98 rfl rfl rfl (by decide +kernel) ⟨Nat.le_of_ble_eq_true rfl, Nat.le_of_ble_eq_true rfl⟩) (yB_V hN (xZ_k hZ hS hA) (xZ_n hZ hD) hK hP hD (ci := 10) (q0 := 2) rfl rfl) rfl rfl hl.1 rfl (lv_room (Nat.le_of_ble_eq_true rfl)) dX11_standard_51 ⟨Nat.le_of_ble_eq_true rfl, Nat.le_of_ble_eq_true rfl⟩) hS hA hP hD (fun r8 u8 H locs hw8 hP hD hS => ?_)
        obtain ⟨i8, q8, c8, d8⟩ := u8
        have hw8 : True ∧ xInv i8 c8 ∧ (∀ k, k ∉ ([] : List Nat) → i8 k = i7 k) ∧ (∀ k, k ∉ ([107] : List Nat) → c8 k = c7 k) ∧ (r8 = (c7 107 (k1.toInt * 6 + f.toInt).toNat)) ∧ ((c8 107) = upd (c7 107) (k1.toInt * 6 + f.toInt).toNat v1) := hw8
        obtain ⟨hw8, hI, hei8, hec8, hxp8_0, hxp8_1⟩ := hw8
        have hxp8_0 : r8 = (c 107 (k1.toInt * 6 + f.toInt).toNat) := by have h9 := hxp8_0; rw [show c7 107 = c 107 from hfc 107 (by decide)] at h9; exact h9
        have hxp8_1 : (c8 107) = upd (c 107) (k1.toInt * 6 + f.toInt).toNat v1 := by have h9 := hxp8_1; rw [show c7 107 = c 107 from hfc 107 (by decide)] at h9; exact h9
        have hfi : ∀ k, k ∉ ([146, 148] : List Nat) → i8 k = i k := fr_z hfi hei8 (by decide) (by decide)
        have hfc : ∀ k, k ∉ ([107] : List Nat) → c8 k = c k := fr_z hfc hec8 (by decide) (by decide)
        have hen : ((i8 146) : Int32).toInt = 0 := by rw [show i8 146 = i7 146 from hei8 146 (by decide)]; exact hen
        exact rw_iret (i8, q8, c8, d8) hx hb hr hlocks hS (hK.sub (tys' := []) [] rfl) hP hD dX11_standard_54 ⟨trivial, hI, fr_w hfi (by decide), fr_w hfc (by decide), (show xEn (i 146) (i 148) ((i8 146) : Int32) ((i8 148) : Int32) from Or.inl hen), (show StR (c 107) k1 f v1 (i 110).toInt (r8 : Int32) from Or.inr ⟨by unfold StB; omega, hxp8_0⟩), (show StU (c 107) (c8 107) k1 f v1 (i 110).toInt from Or.inr ⟨by unfold StB; omega, hxp8_1⟩)⟩
      · have f6 := mt (ti_eq (a := v1.toInt) (b := 0) rfl (by decide)).mpr c6
        refine lv_iload_n hx hb dX11_standard_24 rfl (lv_at hl 3 rfl) ?_
        refine lv_iconst (v := 1) hx hb dX11_standard_25 (by decide) ?_
        refine lv_icmp_eq (tgt := 37) hx hb dX11_standard_26 (by decide) (fun c9 => ?_) (fun c9 => ?_)
        · have f9 := (ti_eq (a := v1.toInt) (b := 1) rfl (by decide)).mp c9
          refine lv_aload_n hx hb dX11_standard_37 rfl (lv_at hl 0 rfl) ?_
          refine xgT_X_tale hx hb hts (fun _ h => List.mem_cons_of_mem _ (List.mem_append_left _ (List.mem_append_left _ (List.mem_append_right _ h)))) hown hK hP (hts (.fieldLink RX11 46 "TalePlay" "tale" "LTalePlay$Tale;") (List.mem_cons_of_mem _ (List.mem_append_left _ (List.mem_append_left _ (List.mem_append_left _ (List.mem_append_left _ (List.mem_of_getElem? (i := 11) rfl))))))) dX11_standard_38 ?_
          refine al_callv (va_runV (As := []) (rest := []) ⟨hx, hb, hml, hown, hts⟩ (x_X9_end l D H.size sk a t i q c d  hI ) (cwV 0 hts gm_X11_standard_e_X9_end_95 rfl rfl rfl (by decide +kernel) ⟨Nat.le_of_ble_eq_true rfl, Nat.le_of_ble_eq_true rfl⟩) (yB_V hN (xZ_k hZ hS hA) (xZ_n hZ hD) hK hP hD (ci := 9) (q0 := 33) rfl rfl) rfl rfl hl.1 rfl (lv_room (Nat.le_of_ble_eq_true rfl)) dX11_standard_41 ⟨Nat.le_of_ble_eq_true rfl, Nat.le_of_ble_eq_true rfl⟩) hS hA hP hD (fun u10 H locs hw10 hP hD hS => ?_)
          obtain ⟨i10, q10, c10, d10⟩ := u10
          have hw10 : True ∧ xInv i10 c10 ∧ (∀ k, k ∉ ([146, 148] : List Nat) → i10 k = i k) ∧ (∀ k, k ∉ ([] : List Nat) → c10 k = c k) ∧ ((i10 146).toInt = 0) ∧ ((i10 148).toInt = 0) := hw10
          obtain ⟨hw10, hI, hei10, hec10, hxp10_0, hxp10_1⟩ := hw10
          have hxp10_0 : (i10 146).toInt = 0 := hxp10_0
          have hxp10_1 : (i10 148).toInt = 0 := hxp10_1
          have hfi : ∀ k, k ∉ ([146, 148] : List Nat) → i10 k = i k := fr_z hfi hei10 (by decide) (by decide)
          have hfc : ∀ k, k ∉ ([] : List Nat) → c10 k = c k := fr_z hfc hec10 (by decide) (by decide)
          have hen : (i10 146).toInt = 0 := hxp10_0
          refine lv_aload_n hx hb dX11_standard_44 rfl (lv_at hl 0 rfl) ?_
          refine xgT_X_world hx hb hts (fun _ h => List.mem_cons_of_mem _ (List.mem_append_left _ (List.mem_append_left _ (List.mem_append_right _ h)))) hown hK hP (hts (.fieldLink RX11 10 "TalePlay" "world" "LTalePlay$World;") (List.mem_cons_of_mem _ (List.mem_append_left _ (List.mem_append_left _ (List.mem_append_left _ (List.mem_append_left _ (List.mem_of_getElem? (i := 0) rfl))))))) dX11_standard_45 ?_
          refine lv_iload_n hx hb dX11_standard_48 rfl (lv_at hl 1 rfl) ?_
          refine lv_iload_n hx hb dX11_standard_49 rfl (lv_at hl 2 rfl) ?_
          refine lv_iload_n hx hb dX11_standard_50 rfl (lv_at hl 3 rfl) ?_
          refine al_calli (va_runV (As := [.int k1, .int f, .int v1]) (rest := []) ⟨hx, hb, hml, hown, hts⟩ (x_X10_changeStandard_e l D H.size sk a t i10 q10 c10 d10 k1 f v1 hI (show 0 ≤ k1.toInt ∧ k1.toInt ≤ 23 from by omega) (show 0 ≤ f.toInt ∧ f.toInt ≤ 5 from by omega) (show v1.toInt = -9 ∨ (0 ≤ v1.toInt ∧ v1.toInt ≤ 1) from by omega)) (cwV 3 hts gm_X11_standard_e_X10_changeStandard_e_98 rfl rfl rfl (by decide +kernel) ⟨Nat.le_of_ble_eq_true rfl, Nat.le_of_ble_eq_true rfl⟩) (yB_V hN (xZ_k hZ hS hA) (xZ_n hZ hD) hK hP hD (ci := 10) (q0 := 2) rfl rfl) rfl rfl hl.1 rfl (lv_room (Nat.le_of_ble_eq_true rfl)) dX11_standard_51 ⟨Nat.le_of_ble_eq_true rfl, Nat.le_of_ble_eq_true rfl⟩) hS hA hP hD (fun r11 u11 H locs hw11 hP hD hS => ?_)
          obtain ⟨i11, q11, c11, d11⟩ := u11
          have hw11 : True ∧ xInv i11 c11 ∧ (∀ k, k ∉ ([] : List Nat) → i11 k = i10 k) ∧ (∀ k, k ∉ ([107] : List Nat) → c11 k = c10 k) ∧ (r11 = (c10 107 (k1.toInt * 6 + f.toInt).toNat)) ∧ ((c11 107) = upd (c10 107) (k1.toInt * 6 + f.toInt).toNat v1) := hw11
          obtain ⟨hw11, hI, hei11, hec11, hxp11_0, hxp11_1⟩ := hw11
          have hxp11_0 : r11 = (c 107 (k1.toInt * 6 + f.toInt).toNat) := by have h9 := hxp11_0; rw [show c10 107 = c 107 from hfc 107 (by decide)] at h9; exact h9
          have hxp11_1 : (c11 107) = upd (c 107) (k1.toInt * 6 + f.toInt).toNat v1 := by have h9 := hxp11_1; rw [show c10 107 = c 107 from hfc 107 (by decide)] at h9; exact h9
          have hfi : ∀ k, k ∉ ([146, 148] : List Nat) → i11 k = i k := fr_z hfi hei11 (by decide) (by decide)
          have hfc : ∀ k, k ∉ ([107] : List Nat) → c11 k = c k := fr_z hfc hec11 (by decide) (by decide)
          have hen : ((i11 146) : Int32).toInt = 0 := by rw [show i11 146 = i10 146 from hei11 146 (by decide)]; exact hen
          exact rw_iret (i11, q11, c11, d11) hx hb hr hlocks hS (hK.sub (tys' := []) [] rfl) hP hD dX11_standard_54 ⟨trivial, hI, fr_w hfi (by decide), fr_w hfc (by decide), (show xEn (i 146) (i 148) ((i11 146) : Int32) ((i11 148) : Int32) from Or.inl hen), (show StR (c 107) k1 f v1 (i 110).toInt (r11 : Int32) from Or.inr ⟨by unfold StB; omega, hxp11_0⟩), (show StU (c 107) (c11 107) k1 f v1 (i 110).toInt from Or.inr ⟨by unfold StB; omega, hxp11_1⟩)⟩
        · have f9 := mt (ti_eq (a := v1.toInt) (b := 1) rfl (by decide)).mpr c9
          refine lv_iload_n hx hb dX11_standard_29 rfl (lv_at hl 3 rfl) ?_
          refine lv_bipush (v := (-9)) hx hb dX11_standard_30 (by decide) ?_
          refine lv_icmp_eq (tgt := 37) hx hb dX11_standard_32 (by decide) (fun c12 => ?_) (fun c12 => ?_)
          · have f12 := (ti_eq (a := v1.toInt) (b := (-9)) rfl (by decide)).mp c12
            refine lv_aload_n hx hb dX11_standard_37 rfl (lv_at hl 0 rfl) ?_
            refine xgT_X_tale hx hb hts (fun _ h => List.mem_cons_of_mem _ (List.mem_append_left _ (List.mem_append_left _ (List.mem_append_right _ h)))) hown hK hP (hts (.fieldLink RX11 46 "TalePlay" "tale" "LTalePlay$Tale;") (List.mem_cons_of_mem _ (List.mem_append_left _ (List.mem_append_left _ (List.mem_append_left _ (List.mem_append_left _ (List.mem_of_getElem? (i := 11) rfl))))))) dX11_standard_38 ?_
            refine al_callv (va_runV (As := []) (rest := []) ⟨hx, hb, hml, hown, hts⟩ (x_X9_end l D H.size sk a t i q c d  hI ) (cwV 0 hts gm_X11_standard_e_X9_end_95 rfl rfl rfl (by decide +kernel) ⟨Nat.le_of_ble_eq_true rfl, Nat.le_of_ble_eq_true rfl⟩) (yB_V hN (xZ_k hZ hS hA) (xZ_n hZ hD) hK hP hD (ci := 9) (q0 := 33) rfl rfl) rfl rfl hl.1 rfl (lv_room (Nat.le_of_ble_eq_true rfl)) dX11_standard_41 ⟨Nat.le_of_ble_eq_true rfl, Nat.le_of_ble_eq_true rfl⟩) hS hA hP hD (fun u13 H locs hw13 hP hD hS => ?_)
            obtain ⟨i13, q13, c13, d13⟩ := u13
            have hw13 : True ∧ xInv i13 c13 ∧ (∀ k, k ∉ ([146, 148] : List Nat) → i13 k = i k) ∧ (∀ k, k ∉ ([] : List Nat) → c13 k = c k) ∧ ((i13 146).toInt = 0) ∧ ((i13 148).toInt = 0) := hw13
            obtain ⟨hw13, hI, hei13, hec13, hxp13_0, hxp13_1⟩ := hw13
            have hxp13_0 : (i13 146).toInt = 0 := hxp13_0
            have hxp13_1 : (i13 148).toInt = 0 := hxp13_1
            have hfi : ∀ k, k ∉ ([146, 148] : List Nat) → i13 k = i k := fr_z hfi hei13 (by decide) (by decide)
            have hfc : ∀ k, k ∉ ([] : List Nat) → c13 k = c k := fr_z hfc hec13 (by decide) (by decide)
            have hen : (i13 146).toInt = 0 := hxp13_0
            refine lv_aload_n hx hb dX11_standard_44 rfl (lv_at hl 0 rfl) ?_
            refine xgT_X_world hx hb hts (fun _ h => List.mem_cons_of_mem _ (List.mem_append_left _ (List.mem_append_left _ (List.mem_append_right _ h)))) hown hK hP (hts (.fieldLink RX11 10 "TalePlay" "world" "LTalePlay$World;") (List.mem_cons_of_mem _ (List.mem_append_left _ (List.mem_append_left _ (List.mem_append_left _ (List.mem_append_left _ (List.mem_of_getElem? (i := 0) rfl))))))) dX11_standard_45 ?_
            refine lv_iload_n hx hb dX11_standard_48 rfl (lv_at hl 1 rfl) ?_
            refine lv_iload_n hx hb dX11_standard_49 rfl (lv_at hl 2 rfl) ?_
            refine lv_iload_n hx hb dX11_standard_50 rfl (lv_at hl 3 rfl) ?_
            refine al_calli (va_runV (As := [.int k1, .int f, .int v1]) (rest := []) ⟨hx, hb, hml, hown, hts⟩ (x_X10_changeStandard_e l D H.size sk a t i13 q13 c13 d13 k1 f v1 hI (show 0 ≤ k1.toInt ∧ k1.toInt ≤ 23 from by omega) (show 0 ≤ f.toInt ∧ f.toInt ≤ 5 from by omega) (show v1.toInt = -9 ∨ (0 ≤ v1.toInt ∧ v1.toInt ≤ 1) from by omega)) (cwV 3 hts gm_X11_standard_e_X10_changeStandard_e_98 rfl rfl rfl (by decide +kernel) ⟨Nat.le_of_ble_eq_true rfl, Nat.le_of_ble_eq_true rfl⟩) (yB_V hN (xZ_k hZ hS hA) (xZ_n hZ hD) hK hP hD (ci := 10) (q0 := 2) rfl rfl) rfl rfl hl.1 rfl (lv_room (Nat.le_of_ble_eq_true rfl)) dX11_standard_51 ⟨Nat.le_of_ble_eq_true rfl, Nat.le_of_ble_eq_true rfl⟩) hS hA hP hD (fun r14 u14 H locs hw14 hP hD hS => ?_)
            obtain ⟨i14, q14, c14, d14⟩ := u14
            have hw14 : True ∧ xInv i14 c14 ∧ (∀ k, k ∉ ([] : List Nat) → i14 k = i13 k) ∧ (∀ k, k ∉ ([107] : List Nat) → c14 k = c13 k) ∧ (r14 = (c13 107 (k1.toInt * 6 + f.toInt).toNat)) ∧ ((c14 107) = upd (c13 107) (k1.toInt * 6 + f.toInt).toNat v1) := hw14
            obtain ⟨hw14, hI, hei14, hec14, hxp14_0, hxp14_1⟩ := hw14
            have hxp14_0 : r14 = (c 107 (k1.toInt * 6 + f.toInt).toNat) := by have h9 := hxp14_0; rw [show c13 107 = c 107 from hfc 107 (by decide)] at h9; exact h9
            have hxp14_1 : (c14 107) = upd (c 107) (k1.toInt * 6 + f.toInt).toNat v1 := by have h9 := hxp14_1; rw [show c13 107 = c 107 from hfc 107 (by decide)] at h9; exact h9
            have hfi : ∀ k, k ∉ ([146, 148] : List Nat) → i14 k = i k := fr_z hfi hei14 (by decide) (by decide)
            have hfc : ∀ k, k ∉ ([107] : List Nat) → c14 k = c k := fr_z hfc hec14 (by decide) (by decide)
            have hen : ((i14 146) : Int32).toInt = 0 := by rw [show i14 146 = i13 146 from hei14 146 (by decide)]; exact hen
            exact rw_iret (i14, q14, c14, d14) hx hb hr hlocks hS (hK.sub (tys' := []) [] rfl) hP hD dX11_standard_54 ⟨trivial, hI, fr_w hfi (by decide), fr_w hfc (by decide), (show xEn (i 146) (i 148) ((i14 146) : Int32) ((i14 148) : Int32) from Or.inl hen), (show StR (c 107) k1 f v1 (i 110).toInt (r14 : Int32) from Or.inr ⟨by unfold StB; omega, hxp14_0⟩), (show StU (c 107) (c14 107) k1 f v1 (i 110).toInt from Or.inr ⟨by unfold StB; omega, hxp14_1⟩)⟩
          · have f12 := mt (ti_eq (a := v1.toInt) (b := (-9)) rfl (by decide)).mpr c12
            refine lv_iconst (v := (-1)) hx hb dX11_standard_35 (by decide) ?_
            exact rw_iret (i, q, c, d) hx hb hr hlocks hS (hK.sub (tys' := []) [] rfl) hP hD dX11_standard_36 ⟨trivial, hI, fr_w hfi (by decide), fr_w hfc (by decide), (show xEn (i 146) (i 148) ((i 146) : Int32) ((i 148) : Int32) from Or.inr ⟨rfl, rfl⟩), (show StR (c 107) k1 f v1 (i 110).toInt ((-1) : Int32) from Or.inl ⟨by unfold StB; omega, by decide⟩), (show StU (c 107) (c 107) k1 f v1 (i 110).toInt from Or.inl ⟨by unfold StB; omega, rfl⟩)⟩

set_option maxHeartbeats 4000000 in
set_option maxRecDepth 100000 in
theorem s_X12_standard_e (l : Launch) (D : va_G) (sz : Nat) (o : Nat) (a : Nat → Nat) (t : Nat → ClassId) (i : Nat → Int32) (q : Int64) (c : Nat → Nat → Int32) (d : Nat → Nat → Int64) (k1 : Int32) (f1 : Int32) (v1 : Int32) (hI : mInv i c) (hs_S : SJ (c 3) (c 6) (c 9) (c 10) (c 11) (c 13) (i 2).toInt (i 5).toInt (i 8).toInt) (hs_J : TJ (c 3) (c 6) (c 23) (c 24) (c 29) (c 30) (i 5).toInt (i 22).toInt (i 27).toInt) : Met l yX12_standard wm_X12_standard ({ frames := 1, cells := 0, slots := 0, locals := 25 }) (va_Pc [.ref o, .int k1, .int f1, .int v1] (pB D sz (mW o a t i q c d) (mT t))) (va_Qi (fun (r : Int32) (u : MS) => True ∧ mInv u.1 u.2.2.1 ∧ (∀ k, k ∉ ([22, 27] : List Nat) → u.1 k = i k) ∧ (∀ k, k ∉ ([4] : List Nat) → u.2.2.1 k = c k) ∧ (SJ (u.2.2.1 3) (u.2.2.1 6) (u.2.2.1 9) (u.2.2.1 10) (u.2.2.1 11) (u.2.2.1 13) (u.1 2).toInt (u.1 5).toInt (u.1 8).toInt) ∧ (TJ (u.2.2.1 3) (u.2.2.1 6) (u.2.2.1 23) (u.2.2.1 24) (u.2.2.1 29) (u.2.2.1 30) (u.1 5).toInt (u.1 22).toInt (u.1 27).toInt) ∧ (StR (c 4) k1 f1 v1 (i 2).toInt r) ∧ (StU (c 4) (u.2.2.1 4) k1 f1 v1 (i 2).toInt)) (oC D (va_A (mW o a t i q c d) sz) (fun u : MS => mW o a t u.1 u.2.1 u.2.2.1 u.2.2.2) (fun _ => [])) (va_A (mW o a t i q c d) sz)) 0 0 (va_A (mW o a t i q c d) sz) := by
  refine Met.ofW (cc := cX12_standard) (maxL := 5) (ret := (some .int)) (by decide) rfl ?_
  intro p e s m args below meth cd s₁ B hml hv
  obtain ⟨rfl, hsz, hP, hK, hD0⟩ := hv
  have hx := B.exec
  have hb := B.bytes
  have hr := B.returns
  have hts := atoms_spec (ws := wm_X12_standard) B.pre
  have hown : s.vm.findClass RX12 = some m.cls := findClass_of_methodNamed B.named
  have hlocks := B.notSynchronized
  subst hsz
  have hD := hD0.self (sz := s.heap.size)
  generalize hAe : va_A (mW o a t i q c d) s.heap.size = A at hD ⊢
  have hA : ∀ q : Nat, s.heap.size ≤ q → A q := fun q h => by rw [← hAe]; exact Or.inr h
  have hS : va_S A s.heap s.heap [] := va_S.rf
  have hfi : ∀ k, k ∉ ([] : List Nat) → i k = i k := fun _ _ => rfl
  have hfc : ∀ k, k ∉ ([] : List Nat) → c k = c k := fun _ _ => rfl
  have hl := lv_entry ([.ref o, .int k1, .int f1, .int v1]) (n := 5) (Nat.le_of_ble_eq_true rfl)
  rw [lg_entry_eq]
  generalize (lg_sl ([.ref o, .int k1, .int f1, .int v1]) ++ List.replicate (5 - (lg_sl ([.ref o, .int k1, .int f1, .int v1])).length) Slot.unset).toArray = ls at hl ⊢
  have hl : lv_has ls 5 [(0, .ref o), (1, .int k1), (2, .int f1), (3, .int v1)] := hl
  have rb2_i : 6 ≤ (i 2).toInt ∧ (i 2).toInt ≤ 24 := hI.1 2
  refine lv_iload_n hx hb dX12_standard_0 rfl (lv_at hl 1 rfl) ?_
  refine lv_i2l (v := k1.toInt64) hx hb dX12_standard_1 rfl ?_
  refine lv_lconst (v := 0) hx hb dX12_standard_2 (by decide) ?_
  refine lv_aload_n hx hb dX12_standard_3 rfl (lv_at hl 0 rfl) ?_
  refine mget_2 (v := (i 2)) rfl hx hb hts (fun _ h => List.mem_cons_of_mem _ (List.mem_append_right _ h)) hown hK hP (hts (.fieldLink RX12 151 "TalePlayModel" "kinds" "I") (List.mem_cons_of_mem _ (List.mem_append_left _ (List.mem_of_getElem? (i := 0) rfl)))) dX12_standard_4 ?_
  refine lv_iconst (v := 1) hx hb dX12_standard_7 (by decide) ?_
  refine lv_isub hx hb dX12_standard_8 ?_
  refine lv_topi (fun x1 ex1 => ?_)
  have tx1 := ti_sub (a := (i 2).toInt) (b := 1) ex1 rfl (by decide) (by omega) (by omega)
  refine lv_i2l (v := x1.toInt64) hx hb dX12_standard_9 rfl ?_
  have hPc := hP.sub (ws' := []) [] rfl
  have hKc := hK.sub (tys' := []) [] rfl
  refine ro_calli (va_runS (As := [.long k1.toInt64, .long 0, .long x1.toInt64]) (rest := []) ⟨hx, hb, hml, hown, hts⟩ (c_X12_in l D s.heap.size k1.toInt64 0 x1.toInt64 k1.toInt 0 ((i 2).toInt - 1) ((Int32.toInt_toInt64 k1).trans rfl) (by decide) ((Int32.toInt_toInt64 x1).trans tx1)) (va_cwS 3 hts gm_X12_standard_X12_in rfl rfl rfl (by decide +kernel) ⟨Nat.le_of_ble_eq_true rfl, Nat.le_of_ble_eq_true rfl⟩) (pA_S hKc hPc) rfl rfl hl.1 rfl (lv_room (Nat.le_of_ble_eq_true rfl)) dX12_standard_10 ⟨Nat.le_of_ble_eq_true rfl, Nat.le_of_ble_eq_true rfl⟩) hS hA hP (fun r2 u2 H locs hw2 hP hS => ?_)
  have hw2 : r2 = if (0 ≤ k1.toInt ∧ k1.toInt ≤ ((i 2).toInt - 1)) then 1 else 0 := hw2
  refine lv_if_eq (tgt := 44) hx hb dX12_standard_13 (by decide) (fun c3 => ?_) (fun c3 => ?_)
  · have f3 := fl_f hw2 c3
    refine lv_iconst (v := (-1)) hx hb dX12_standard_44 (by decide) ?_
    exact rw_iret (i, q, c, d) hx hb hr hlocks hS (hK.sub (tys' := []) [] rfl) hP hD dX12_standard_45 ⟨trivial, hI, fr_w hfi (by decide), fr_w hfc (by decide), (show SJ (c 3) (c 6) (c 9) (c 10) (c 11) (c 13) ((i 2) : Int32).toInt ((i 5) : Int32).toInt ((i 8) : Int32).toInt from hs_S), (show TJ (c 3) (c 6) (c 23) (c 24) (c 29) (c 30) ((i 5) : Int32).toInt ((i 22) : Int32).toInt ((i 27) : Int32).toInt from hs_J), (show StR (c 4) k1 f1 v1 (i 2).toInt ((-1) : Int32) from Or.inl ⟨by unfold StB; omega, by decide⟩), (show StU (c 4) (c 4) k1 f1 v1 (i 2).toInt from Or.inl ⟨by unfold StB; omega, rfl⟩)⟩
  · have f3 := fl_t hw2 c3
    refine lv_iload_n hx hb dX12_standard_16 rfl (lv_at hl 2 rfl) ?_
    refine lv_i2l (v := f1.toInt64) hx hb dX12_standard_17 rfl ?_
    refine lv_lconst (v := 0) hx hb dX12_standard_18 (by decide) ?_
    refine lv_ldc2 (v := 5) hx hb hown (hts (.constantLong RX12 170 (5)) (List.mem_cons_of_mem _ (List.mem_append_left _ (List.mem_of_getElem? (i := 5) rfl)))) dX12_standard_19 ?_
    have hPc := hP.sub (ws' := []) [] rfl
    have hKc := hK.sub (tys' := []) [] rfl
    refine ro_calli (va_runS (As := [.long f1.toInt64, .long 0, .long 5]) (rest := []) ⟨hx, hb, hml, hown, hts⟩ (c_X12_in l D H.size f1.toInt64 0 5 f1.toInt 0 5 ((Int32.toInt_toInt64 f1).trans rfl) (by decide) (by decide)) (va_cwS 3 hts gm_X12_standard_X12_in rfl rfl rfl (by decide +kernel) ⟨Nat.le_of_ble_eq_true rfl, Nat.le_of_ble_eq_true rfl⟩) (pA_S hKc hPc) rfl rfl hl.1 rfl (lv_room (Nat.le_of_ble_eq_true rfl)) dX12_standard_22 ⟨Nat.le_of_ble_eq_true rfl, Nat.le_of_ble_eq_true rfl⟩) hS hA hP (fun r4 u4 H locs hw4 hP hS => ?_)
    have hw4 : r4 = if (0 ≤ f1.toInt ∧ f1.toInt ≤ 5) then 1 else 0 := hw4
    refine lv_if_eq (tgt := 44) hx hb dX12_standard_25 (by decide) (fun c5 => ?_) (fun c5 => ?_)
    · have f5 := fl_f hw4 c5
      refine lv_iconst (v := (-1)) hx hb dX12_standard_44 (by decide) ?_
      exact rw_iret (i, q, c, d) hx hb hr hlocks hS (hK.sub (tys' := []) [] rfl) hP hD dX12_standard_45 ⟨trivial, hI, fr_w hfi (by decide), fr_w hfc (by decide), (show SJ (c 3) (c 6) (c 9) (c 10) (c 11) (c 13) ((i 2) : Int32).toInt ((i 5) : Int32).toInt ((i 8) : Int32).toInt from hs_S), (show TJ (c 3) (c 6) (c 23) (c 24) (c 29) (c 30) ((i 5) : Int32).toInt ((i 22) : Int32).toInt ((i 27) : Int32).toInt from hs_J), (show StR (c 4) k1 f1 v1 (i 2).toInt ((-1) : Int32) from Or.inl ⟨by unfold StB; omega, by decide⟩), (show StU (c 4) (c 4) k1 f1 v1 (i 2).toInt from Or.inl ⟨by unfold StB; omega, rfl⟩)⟩
    · have f5 := fl_t hw4 c5
      refine lv_iload_n hx hb dX12_standard_28 rfl (lv_at hl 3 rfl) ?_
      refine lv_i2l (v := v1.toInt64) hx hb dX12_standard_29 rfl ?_
      refine lv_lconst (v := 0) hx hb dX12_standard_30 (by decide) ?_
      refine lv_lconst (v := 1) hx hb dX12_standard_31 (by decide) ?_
      have hPc := hP.sub (ws' := []) [] rfl
      have hKc := hK.sub (tys' := []) [] rfl
      refine ro_calli (va_runS (As := [.long v1.toInt64, .long 0, .long 1]) (rest := []) ⟨hx, hb, hml, hown, hts⟩ (c_X12_in l D H.size v1.toInt64 0 1 v1.toInt 0 1 ((Int32.toInt_toInt64 v1).trans rfl) (by decide) (by decide)) (va_cwS 3 hts gm_X12_standard_X12_in rfl rfl rfl (by decide +kernel) ⟨Nat.le_of_ble_eq_true rfl, Nat.le_of_ble_eq_true rfl⟩) (pA_S hKc hPc) rfl rfl hl.1 rfl (lv_room (Nat.le_of_ble_eq_true rfl)) dX12_standard_32 ⟨Nat.le_of_ble_eq_true rfl, Nat.le_of_ble_eq_true rfl⟩) hS hA hP (fun r6 u6 H locs hw6 hP hS => ?_)
      have hw6 : r6 = if (0 ≤ v1.toInt ∧ v1.toInt ≤ 1) then 1 else 0 := hw6
      refine lv_if_ne (tgt := 46) hx hb dX12_standard_35 (by decide) (fun c7 => ?_) (fun c7 => ?_)
      · have f7 := fl_t hw6 c7
        refine lv_aload_n hx hb dX12_standard_46 rfl (lv_at hl 0 rfl) ?_
        refine mget_4 hx hb hts (fun _ h => List.mem_cons_of_mem _ (List.mem_append_right _ h)) hown hK hP (hts (.fieldLink RX12 16 "TalePlayModel" "defaults" "[I") (List.mem_cons_of_mem _ (List.mem_append_left _ (List.mem_of_getElem? (i := 6) rfl)))) dX12_standard_47 ?_
        refine lv_bipush (v := 6) hx hb dX12_standard_50 (by decide) ?_
        refine lv_iload_n hx hb dX12_standard_52 rfl (lv_at hl 1 rfl) ?_
        refine lv_imul hx hb dX12_standard_53 ?_
        refine lv_topi (fun x8 ex8 => ?_)
        have tx8 := ti_mul (a := 6) (b := k1.toInt) ex8 (by decide) rfl (by omega) (by omega)
        refine lv_iload_n hx hb dX12_standard_54 rfl (lv_at hl 2 rfl) ?_
        refine lv_iadd hx hb dX12_standard_55 ?_
        refine lv_topi (fun x9 ex9 => ?_)
        have tx9 := ti_add (a := (6 * k1.toInt)) (b := f1.toInt) ex9 tx8 rfl (by omega) (by omega)
        refine mld_4 hx hb hK hP (vp_in_iff.mpr (by have h9 : x9.toInt = ((6 * k1.toInt) + f1.toInt) := tx9; omega)) dX12_standard_56 (fun x10 ex10 => ?_)
        have rx10 : x10.toInt = -9 ∨ (0 ≤ x10.toInt ∧ x10.toInt ≤ 1) := by rw [ex10]; exact hI.2 4 _
        refine lv_istore (lv' := [(4, .int x10), (0, .ref o), (1, .int k1), (2, .int f1), (3, .int v1)]) hx hb dX12_standard_57 hl (by decide) rfl (fun ls hl => ?_)
        refine lv_aload_n hx hb dX12_standard_59 rfl (lv_at hl 1 rfl) ?_
        refine mget_4 hx hb hts (fun _ h => List.mem_cons_of_mem _ (List.mem_append_right _ h)) hown hK hP (hts (.fieldLink RX12 16 "TalePlayModel" "defaults" "[I") (List.mem_cons_of_mem _ (List.mem_append_left _ (List.mem_of_getElem? (i := 6) rfl)))) dX12_standard_60 ?_
        refine lv_bipush (v := 6) hx hb dX12_standard_63 (by decide) ?_
        refine lv_iload_n hx hb dX12_standard_65 rfl (lv_at hl 2 rfl) ?_
        refine lv_imul hx hb dX12_standard_66 ?_
        refine lv_topi (fun x11 ex11 => ?_)
        have tx11 := ti_mul (a := 6) (b := k1.toInt) ex11 (by decide) rfl (by omega) (by omega)
        refine lv_iload_n hx hb dX12_standard_67 rfl (lv_at hl 3 rfl) ?_
        refine lv_iadd hx hb dX12_standard_68 ?_
        refine lv_topi (fun x12 ex12 => ?_)
        have tx12 := ti_add (a := (6 * k1.toInt)) (b := f1.toInt) ex12 tx11 rfl (by omega) (by omega)
        refine lv_iload_n hx hb dX12_standard_69 rfl (lv_at hl 4 rfl) ?_
        refine mst_4 hx hb hK hP hD hS (vp_in_iff.mpr (by have h9 : x12.toInt = ((6 * k1.toInt) + f1.toInt) := tx12; omega)) dX12_standard_70 (fun H locs hP hD hS => ?_)
        have hI := mInv_c hI (k := 4) (j := (x12 : Int32).toNatClampNeg) (x := v1) (show (v1 : Int32).toInt = -9 ∨ (0 ≤ (v1 : Int32).toInt ∧ (v1 : Int32).toInt ≤ 1) from by omega)
        have hfc : ∀ k, k ∉ ([4] : List Nat) → (updA c 4 (x12 : Int32).toNatClampNeg v1) k = c k := fr_cz hfc (by decide) (by decide)
        refine lv_aload_n hx hb dX12_standard_71 rfl (lv_at hl 1 rfl) ?_
        refine al_callv (va_runV (As := []) (rest := []) ⟨hx, hb, hml, hown, hts⟩ (s_X12_endTale l D H.size o a t i q (updA c 4 (x12 : Int32).toNatClampNeg v1) d  hI ) (cwV 0 hts gm_X12_standard_X12_endTale rfl rfl rfl (by decide +kernel) ⟨Nat.le_of_ble_eq_true rfl, Nat.le_of_ble_eq_true rfl⟩) (pB_V hK hP hD (ci := 12) (q0 := 0) rfl rfl) rfl rfl hl.1 rfl (lv_room (Nat.le_of_ble_eq_true rfl)) dX12_standard_72 ⟨Nat.le_of_ble_eq_true rfl, Nat.le_of_ble_eq_true rfl⟩) hS hA hP hD (fun u13 H locs hw13 hP hD hS => ?_)
        obtain ⟨i13, q13, c13, d13⟩ := u13
        have hw13 : True ∧ mInv i13 c13 ∧ (∀ k, k ∉ ([22, 27] : List Nat) → i13 k = i k) ∧ (∀ k, k ∉ ([] : List Nat) → c13 k = (updA c 4 (x12 : Int32).toNatClampNeg v1) k) ∧ ((i13 22).toInt = -9) ∧ ((i13 27).toInt = 0) := hw13
        obtain ⟨hw13, hI, hei13, hec13, hxp13_0, hxp13_1⟩ := hw13
        have hxp13_0 : (i13 22).toInt = -9 := hxp13_0
        have hxp13_1 : (i13 27).toInt = 0 := hxp13_1
        have hfi : ∀ k, k ∉ ([22, 27] : List Nat) → i13 k = i k := fr_z hfi hei13 (by decide) (by decide)
        have hfc : ∀ k, k ∉ ([4] : List Nat) → c13 k = c k := fr_z hfc hec13 (by decide) (by decide)
        have hP : va_P D vwCl (mW o a t i13 q13 c13 d13) H := hP
        have hD : va_D A (mW o a t i13 q13 c13 d13) := hD
        refine lv_iload hx hb dX12_standard_75 (lv_at hl 0 rfl) ?_
        exact rw_iret (i13, q13, c13, d13) hx hb hr hlocks hS (hK.sub (tys' := []) [] rfl) hP hD dX12_standard_77 ⟨trivial, hI, fr_w hfi (by decide), fr_w hfc (by decide), (show SJ (c13 3) (c13 6) (c13 9) (c13 10) (c13 11) (c13 13) ((i13 2) : Int32).toInt ((i13 5) : Int32).toInt ((i13 8) : Int32).toInt from by rw [show c13 3 = (updA c 4 (x12 : Int32).toNatClampNeg v1) 3 from hec13 3 (by decide), show c13 6 = (updA c 4 (x12 : Int32).toNatClampNeg v1) 6 from hec13 6 (by decide), show c13 9 = (updA c 4 (x12 : Int32).toNatClampNeg v1) 9 from hec13 9 (by decide), show c13 10 = (updA c 4 (x12 : Int32).toNatClampNeg v1) 10 from hec13 10 (by decide), show c13 11 = (updA c 4 (x12 : Int32).toNatClampNeg v1) 11 from hec13 11 (by decide), show c13 13 = (updA c 4 (x12 : Int32).toNatClampNeg v1) 13 from hec13 13 (by decide), show i13 2 = i 2 from hei13 2 (by decide), show i13 5 = i 5 from hei13 5 (by decide), show i13 8 = i 8 from hei13 8 (by decide)]; show SJ (c 3) (c 6) (c 9) (c 10) (c 11) (c 13) (i 2).toInt (i 5).toInt (i 8).toInt; exact hs_S), (show TJ (c13 3) (c13 6) (c13 23) (c13 24) (c13 29) (c13 30) ((i13 5) : Int32).toInt ((i13 22) : Int32).toInt ((i13 27) : Int32).toInt from TJ_no hxp13_0), (show StR (c 4) k1 f1 v1 (i 2).toInt (x10 : Int32) from Or.inr ⟨by unfold StB; omega, (ix_n (f := c 4) (s := x9) (show (x9 : Int32).toInt = k1.toInt * 6 + f1.toInt from by omega) ex10).symm⟩), (show StU (c 4) (c13 4) k1 f1 v1 (i 2).toInt from Or.inr ⟨by unfold StB; omega, by rw [show c13 4 = (updA c 4 (x12 : Int32).toNatClampNeg v1) 4 from hec13 4 (by decide)]; show upd (c 4) (x12 : Int32).toNatClampNeg v1 = _; rw [cl_t (show (x12 : Int32).toInt = k1.toInt * 6 + f1.toInt from by omega)]⟩)⟩
      · have f7 := fl_f hw6 c7
        refine lv_iload_n hx hb dX12_standard_38 rfl (lv_at hl 3 rfl) ?_
        refine lv_bipush (v := (-9)) hx hb dX12_standard_39 (by decide) ?_
        refine lv_icmp_eq (tgt := 46) hx hb dX12_standard_41 (by decide) (fun c14 => ?_) (fun c14 => ?_)
        · have f14 := (ti_eq (a := v1.toInt) (b := (-9)) rfl (by decide)).mp c14
          refine lv_aload_n hx hb dX12_standard_46 rfl (lv_at hl 0 rfl) ?_
          refine mget_4 hx hb hts (fun _ h => List.mem_cons_of_mem _ (List.mem_append_right _ h)) hown hK hP (hts (.fieldLink RX12 16 "TalePlayModel" "defaults" "[I") (List.mem_cons_of_mem _ (List.mem_append_left _ (List.mem_of_getElem? (i := 6) rfl)))) dX12_standard_47 ?_
          refine lv_bipush (v := 6) hx hb dX12_standard_50 (by decide) ?_
          refine lv_iload_n hx hb dX12_standard_52 rfl (lv_at hl 1 rfl) ?_
          refine lv_imul hx hb dX12_standard_53 ?_
          refine lv_topi (fun x15 ex15 => ?_)
          have tx15 := ti_mul (a := 6) (b := k1.toInt) ex15 (by decide) rfl (by omega) (by omega)
          refine lv_iload_n hx hb dX12_standard_54 rfl (lv_at hl 2 rfl) ?_
          refine lv_iadd hx hb dX12_standard_55 ?_
          refine lv_topi (fun x16 ex16 => ?_)
          have tx16 := ti_add (a := (6 * k1.toInt)) (b := f1.toInt) ex16 tx15 rfl (by omega) (by omega)
          refine mld_4 hx hb hK hP (vp_in_iff.mpr (by have h9 : x16.toInt = ((6 * k1.toInt) + f1.toInt) := tx16; omega)) dX12_standard_56 (fun x17 ex17 => ?_)
          have rx17 : x17.toInt = -9 ∨ (0 ≤ x17.toInt ∧ x17.toInt ≤ 1) := by rw [ex17]; exact hI.2 4 _
          refine lv_istore (lv' := [(4, .int x17), (0, .ref o), (1, .int k1), (2, .int f1), (3, .int v1)]) hx hb dX12_standard_57 hl (by decide) rfl (fun ls hl => ?_)
          refine lv_aload_n hx hb dX12_standard_59 rfl (lv_at hl 1 rfl) ?_
          refine mget_4 hx hb hts (fun _ h => List.mem_cons_of_mem _ (List.mem_append_right _ h)) hown hK hP (hts (.fieldLink RX12 16 "TalePlayModel" "defaults" "[I") (List.mem_cons_of_mem _ (List.mem_append_left _ (List.mem_of_getElem? (i := 6) rfl)))) dX12_standard_60 ?_
          refine lv_bipush (v := 6) hx hb dX12_standard_63 (by decide) ?_
          refine lv_iload_n hx hb dX12_standard_65 rfl (lv_at hl 2 rfl) ?_
          refine lv_imul hx hb dX12_standard_66 ?_
          refine lv_topi (fun x18 ex18 => ?_)
          have tx18 := ti_mul (a := 6) (b := k1.toInt) ex18 (by decide) rfl (by omega) (by omega)
          refine lv_iload_n hx hb dX12_standard_67 rfl (lv_at hl 3 rfl) ?_
          refine lv_iadd hx hb dX12_standard_68 ?_
          refine lv_topi (fun x19 ex19 => ?_)
          have tx19 := ti_add (a := (6 * k1.toInt)) (b := f1.toInt) ex19 tx18 rfl (by omega) (by omega)
          refine lv_iload_n hx hb dX12_standard_69 rfl (lv_at hl 4 rfl) ?_
          refine mst_4 hx hb hK hP hD hS (vp_in_iff.mpr (by have h9 : x19.toInt = ((6 * k1.toInt) + f1.toInt) := tx19; omega)) dX12_standard_70 (fun H locs hP hD hS => ?_)
          have hI := mInv_c hI (k := 4) (j := (x19 : Int32).toNatClampNeg) (x := v1) (show (v1 : Int32).toInt = -9 ∨ (0 ≤ (v1 : Int32).toInt ∧ (v1 : Int32).toInt ≤ 1) from by omega)
          have hfc : ∀ k, k ∉ ([4] : List Nat) → (updA c 4 (x19 : Int32).toNatClampNeg v1) k = c k := fr_cz hfc (by decide) (by decide)
          refine lv_aload_n hx hb dX12_standard_71 rfl (lv_at hl 1 rfl) ?_
          refine al_callv (va_runV (As := []) (rest := []) ⟨hx, hb, hml, hown, hts⟩ (s_X12_endTale l D H.size o a t i q (updA c 4 (x19 : Int32).toNatClampNeg v1) d  hI ) (cwV 0 hts gm_X12_standard_X12_endTale rfl rfl rfl (by decide +kernel) ⟨Nat.le_of_ble_eq_true rfl, Nat.le_of_ble_eq_true rfl⟩) (pB_V hK hP hD (ci := 12) (q0 := 0) rfl rfl) rfl rfl hl.1 rfl (lv_room (Nat.le_of_ble_eq_true rfl)) dX12_standard_72 ⟨Nat.le_of_ble_eq_true rfl, Nat.le_of_ble_eq_true rfl⟩) hS hA hP hD (fun u20 H locs hw20 hP hD hS => ?_)
          obtain ⟨i20, q20, c20, d20⟩ := u20
          have hw20 : True ∧ mInv i20 c20 ∧ (∀ k, k ∉ ([22, 27] : List Nat) → i20 k = i k) ∧ (∀ k, k ∉ ([] : List Nat) → c20 k = (updA c 4 (x19 : Int32).toNatClampNeg v1) k) ∧ ((i20 22).toInt = -9) ∧ ((i20 27).toInt = 0) := hw20
          obtain ⟨hw20, hI, hei20, hec20, hxp20_0, hxp20_1⟩ := hw20
          have hxp20_0 : (i20 22).toInt = -9 := hxp20_0
          have hxp20_1 : (i20 27).toInt = 0 := hxp20_1
          have hfi : ∀ k, k ∉ ([22, 27] : List Nat) → i20 k = i k := fr_z hfi hei20 (by decide) (by decide)
          have hfc : ∀ k, k ∉ ([4] : List Nat) → c20 k = c k := fr_z hfc hec20 (by decide) (by decide)
          have hP : va_P D vwCl (mW o a t i20 q20 c20 d20) H := hP
          have hD : va_D A (mW o a t i20 q20 c20 d20) := hD
          refine lv_iload hx hb dX12_standard_75 (lv_at hl 0 rfl) ?_
          exact rw_iret (i20, q20, c20, d20) hx hb hr hlocks hS (hK.sub (tys' := []) [] rfl) hP hD dX12_standard_77 ⟨trivial, hI, fr_w hfi (by decide), fr_w hfc (by decide), (show SJ (c20 3) (c20 6) (c20 9) (c20 10) (c20 11) (c20 13) ((i20 2) : Int32).toInt ((i20 5) : Int32).toInt ((i20 8) : Int32).toInt from by rw [show c20 3 = (updA c 4 (x19 : Int32).toNatClampNeg v1) 3 from hec20 3 (by decide), show c20 6 = (updA c 4 (x19 : Int32).toNatClampNeg v1) 6 from hec20 6 (by decide), show c20 9 = (updA c 4 (x19 : Int32).toNatClampNeg v1) 9 from hec20 9 (by decide), show c20 10 = (updA c 4 (x19 : Int32).toNatClampNeg v1) 10 from hec20 10 (by decide), show c20 11 = (updA c 4 (x19 : Int32).toNatClampNeg v1) 11 from hec20 11 (by decide), show c20 13 = (updA c 4 (x19 : Int32).toNatClampNeg v1) 13 from hec20 13 (by decide), show i20 2 = i 2 from hei20 2 (by decide), show i20 5 = i 5 from hei20 5 (by decide), show i20 8 = i 8 from hei20 8 (by decide)]; show SJ (c 3) (c 6) (c 9) (c 10) (c 11) (c 13) (i 2).toInt (i 5).toInt (i 8).toInt; exact hs_S), (show TJ (c20 3) (c20 6) (c20 23) (c20 24) (c20 29) (c20 30) ((i20 5) : Int32).toInt ((i20 22) : Int32).toInt ((i20 27) : Int32).toInt from TJ_no hxp20_0), (show StR (c 4) k1 f1 v1 (i 2).toInt (x17 : Int32) from Or.inr ⟨by unfold StB; omega, (ix_n (f := c 4) (s := x16) (show (x16 : Int32).toInt = k1.toInt * 6 + f1.toInt from by omega) ex17).symm⟩), (show StU (c 4) (c20 4) k1 f1 v1 (i 2).toInt from Or.inr ⟨by unfold StB; omega, by rw [show c20 4 = (updA c 4 (x19 : Int32).toNatClampNeg v1) 4 from hec20 4 (by decide)]; show upd (c 4) (x19 : Int32).toNatClampNeg v1 = _; rw [cl_t (show (x19 : Int32).toInt = k1.toInt * 6 + f1.toInt from by omega)]⟩)⟩
        · have f14 := mt (ti_eq (a := v1.toInt) (b := (-9)) rfl (by decide)).mpr c14
          refine lv_iconst (v := (-1)) hx hb dX12_standard_44 (by decide) ?_
          exact rw_iret (i, q, c, d) hx hb hr hlocks hS (hK.sub (tys' := []) [] rfl) hP hD dX12_standard_45 ⟨trivial, hI, fr_w hfi (by decide), fr_w hfc (by decide), (show SJ (c 3) (c 6) (c 9) (c 10) (c 11) (c 13) ((i 2) : Int32).toInt ((i 5) : Int32).toInt ((i 8) : Int32).toInt from hs_S), (show TJ (c 3) (c 6) (c 23) (c 24) (c 29) (c 30) ((i 5) : Int32).toInt ((i 22) : Int32).toInt ((i 27) : Int32).toInt from hs_J), (show StR (c 4) k1 f1 v1 (i 2).toInt ((-1) : Int32) from Or.inl ⟨by unfold StB; omega, by decide⟩), (show StU (c 4) (c 4) k1 f1 v1 (i 2).toInt from Or.inl ⟨by unfold StB; omega, rfl⟩)⟩

def wm_X4_lay_e : List Cond := .code yX4_lay cX4_lay 5 none :: (([.fieldLink RX4 9 "TalePlay$Lines" "sorts" "[I", .fieldLink RX4 15 "TalePlay$Lines" "lengths" "[I", .fieldLink RX4 18 "TalePlay$Lines" "items" "[J"] : List Cond) ++ wsX40)
set_option maxHeartbeats 4000000 in
set_option maxRecDepth 100000 in
theorem x_X4_lay_e (l : Launch) (D : va_G) (sz : Nat) (sk : Value) (a : Nat → Nat) (t : Nat → ClassId) (i : Nat → Int32) (q : Int64) (c : Nat → Nat → Int32) (d : Nat → Nat → Int64) (w : Int32) (s1 : Int32) (n1 : Int32) (hI : xInv i c) (hw : 0 ≤ w.toInt ∧ w.toInt ≤ 29) (hs1 : 0 ≤ s1.toInt ∧ s1.toInt ≤ 3) (hn1 : 0 ≤ n1.toInt ∧ n1.toInt ≤ 12) : Met l yX4_lay wm_X4_lay_e ({ frames := 0, cells := 0, slots := 0, locals := 0 }) (va_Pc [.ref (a 157), .int w, .int s1, .int n1] (yB (a 186) D sz (xwT sk a t i q c d) (xtT t))) (va_Qv (fun (u : MS) => True ∧ xInv u.1 u.2.2.1 ∧ (∀ k, k ∉ ([] : List Nat) → u.1 k = i k) ∧ (∀ k, k ∉ ([158, 159] : List Nat) → u.2.2.1 k = c k) ∧ ((u.2.2.1 158) = upd (c 158) w.toNatClampNeg s1) ∧ ((u.2.2.1 159) = upd (c 159) w.toNatClampNeg n1)) (oC D (va_A (xwT sk a t i q c d) sz) (fun u : MS => xwT sk a t u.1 u.2.1 u.2.2.1 u.2.2.2) (fun _ => [])) (va_A (xwT sk a t i q c d) sz)) 0 0 (va_A (xwT sk a t i q c d) sz) := by
  refine Met.ofW (cc := cX4_lay) (maxL := 5) (ret := none) (by decide) rfl ?_
  intro p e s m args below meth cd s₁ B hml hv
  obtain ⟨rfl, ⟨hsz, hP, hK, hD0⟩, hN, hZ, hBW⟩ := hv
  have hx := B.exec
  have hb := B.bytes
  have hr := B.returns
  have hts := atoms_spec (ws := wm_X4_lay_e) B.pre
  have hown : s.vm.findClass RX4 = some m.cls := findClass_of_methodNamed B.named
  have hlocks := B.notSynchronized
  subst hsz
  have hD := hD0.self (sz := s.heap.size)
  have hZ := xZ_A hZ hP hBW
  generalize hAe : va_A (xwT sk a t i q c d) s.heap.size = A at hD hZ ⊢
  have hA : ∀ q : Nat, s.heap.size ≤ q → A q := fun q h => by rw [← hAe]; exact Or.inr h
  have hS : va_S A s.heap s.heap [] := va_S.rf
  have hfi : ∀ k, k ∉ ([] : List Nat) → i k = i k := fun _ _ => rfl
  have hfc : ∀ k, k ∉ ([] : List Nat) → c k = c k := fun _ _ => rfl
  have hl := lv_entry ([.ref (a 157), .int w, .int s1, .int n1]) (n := 5) (Nat.le_of_ble_eq_true rfl)
  rw [lg_entry_eq]
  generalize (lg_sl ([.ref (a 157), .int w, .int s1, .int n1]) ++ List.replicate (5 - (lg_sl ([.ref (a 157), .int w, .int s1, .int n1])).length) Slot.unset).toArray = ls at hl ⊢
  have hl : lv_has ls 5 [(0, .ref (a 157)), (1, .int w), (2, .int s1), (3, .int n1)] := hl
  refine lv_aload_n hx hb dX4_lay_0 rfl (lv_at hl 0 rfl) ?_
  refine xgT_L_sorts hx hb hts (fun _ h => List.mem_cons_of_mem _ (List.mem_append_right _ h)) hown hK hP (hts (.fieldLink RX4 9 "TalePlay$Lines" "sorts" "[I") (List.mem_cons_of_mem _ (List.mem_append_left _ (List.mem_of_getElem? (i := 0) rfl)))) dX4_lay_1 ?_
  refine lv_iload_n hx hb dX4_lay_4 rfl (lv_at hl 1 rfl) ?_
  refine lv_iload_n hx hb dX4_lay_5 rfl (lv_at hl 2 rfl) ?_
  refine xsT_158 hx hb hK hP hD hS (vp_in_iff.mpr (by have h9 : w.toInt = w.toInt := rfl; omega)) dX4_lay_6 (fun H locs hP hD hS => ?_)
  have hI := xInv_c hI (k := 158) (j := (w : Int32).toNatClampNeg) (x := s1) (show (s1 : Int32).toInt = -9 ∨ (0 ≤ (s1 : Int32).toInt ∧ (s1 : Int32).toInt ≤ 3) from by omega)
  have hfc : ∀ k, k ∉ ([158] : List Nat) → (updA c 158 (w : Int32).toNatClampNeg s1) k = c k := fr_cz hfc (by decide) (by decide)
  refine lv_aload_n hx hb dX4_lay_7 rfl (lv_at hl 0 rfl) ?_
  refine xgT_L_lengths hx hb hts (fun _ h => List.mem_cons_of_mem _ (List.mem_append_right _ h)) hown hK hP (hts (.fieldLink RX4 15 "TalePlay$Lines" "lengths" "[I") (List.mem_cons_of_mem _ (List.mem_append_left _ (List.mem_of_getElem? (i := 1) rfl)))) dX4_lay_8 ?_
  refine lv_iload_n hx hb dX4_lay_11 rfl (lv_at hl 1 rfl) ?_
  refine lv_iload_n hx hb dX4_lay_12 rfl (lv_at hl 3 rfl) ?_
  refine xsT_159 hx hb hK hP hD hS (vp_in_iff.mpr (by have h9 : w.toInt = w.toInt := rfl; omega)) dX4_lay_13 (fun H locs hP hD hS => ?_)
  have hI := xInv_c hI (k := 159) (j := (w : Int32).toNatClampNeg) (x := n1) (show 0 ≤ (n1 : Int32).toInt ∧ (n1 : Int32).toInt ≤ 12 from by omega)
  have hfc : ∀ k, k ∉ ([158, 159] : List Nat) → (updA (updA c 158 (w : Int32).toNatClampNeg s1) 159 (w : Int32).toNatClampNeg n1) k = c k := fr_cz hfc (by decide) (by decide)
  refine lv_iconst (v := 0) hx hb dX4_lay_14 (by decide) ?_
  refine lv_istore (lv' := [(4, .int 0), (0, .ref (a 157)), (1, .int w), (2, .int s1), (3, .int n1)]) hx hb dX4_lay_15 hl (by decide) rfl (fun ls hl => ?_)
  have lp1 : ∀ (fu : Nat) (i1 : Nat → Int32) (q1 : Int64) (c1 : Nat → Nat → Int32) (d1 : Nat → Nat → Int64) (y1_4 : Int32), xInv i1 c1 → (∀ k, k ∉ ([] : List Nat) → i1 k = i k) → (∀ k, k ∉ ([158, 159] : List Nat) → c1 k = c k) → (0 ≤ y1_4.toInt ∧ y1_4.toInt ≤ 12) → ((c1 158) = upd (c 158) w.toNatClampNeg s1) → ((c1 159) = upd (c 159) w.toNatClampNeg n1) → (12 - y1_4.toInt).toNat < fu → ∀ (H : Heap) (locs : List Loc) (ls : Array Slot), va_P D vwCl (xwT sk a t i1 q1 c1 d1) H → va_D A (xwT sk a t i1 q1 c1 d1) → va_S A s.heap H locs → lv_has ls 5 [(4, .int y1_4), (0, .ref (a 157)), (1, .int w), (2, .int s1), (3, .int n1)] → W p l e (headSpec wm_X4_lay_e ({ frames := 0, cells := 0, slots := 0, locals := 0 })).room s m ([.ref (a 157), .int w, .int s1, .int n1] : List Value).toArray below meth cd H locs 0 0 (MQ below (va_Qv (fun (u : MS) => True ∧ xInv u.1 u.2.2.1 ∧ (∀ k, k ∉ ([] : List Nat) → u.1 k = i k) ∧ (∀ k, k ∉ ([158, 159] : List Nat) → u.2.2.1 k = c k) ∧ ((u.2.2.1 158) = upd (c 158) w.toNatClampNeg s1) ∧ ((u.2.2.1 159) = upd (c 159) w.toNatClampNeg n1)) (oC D A (fun u : MS => xwT sk a t u.1 u.2.1 u.2.2.1 u.2.2.2) (fun _ => [])) A) ([.ref (a 157), .int w, .int s1, .int n1] : List Value).toArray s 0 0 A) (F0 m 17 ls []) := by
    intro fu
    induction fu with
    | zero => intro i1 q1 c1 d1 y1_4 hI hfi hfc hy1_4 hz1_0 hz1_1 hm; exact absurd hm (Nat.not_lt_zero _)
    | succ fu ih =>
      intro i1 q1 c1 d1 y1_4 hI hfi hfc hy1_4 hz1_0 hz1_1 hm H locs ls hP hD hS hl
      have ih1 := ih
      refine lv_iload hx hb dX4_lay_17 (lv_at hl 0 rfl) ?_
      refine lv_bipush (v := 12) hx hb dX4_lay_19 (by decide) ?_
      refine lv_icmp_ge (tgt := 43) hx hb dX4_lay_21 (by decide) (fun c2 => ?_) (fun c2 => ?_)
      · have f2 := (ti_le (a := 12) (b := y1_4.toInt) (by decide) rfl).mp c2
        exact rw_vret (i1, q1, c1, d1) hx hb hr hlocks hS (hK.sub (tys' := []) [] rfl) hP hD dX4_lay_43 ⟨trivial, hI, fr_w hfi (by decide), fr_w hfc (by decide), (show (c1 158) = upd (c 158) w.toNatClampNeg s1 from hz1_0), (show (c1 159) = upd (c 159) w.toNatClampNeg n1 from hz1_1)⟩
      · have f2 := mt (ti_le (a := 12) (b := y1_4.toInt) (by decide) rfl).mpr c2
        refine lv_aload_n hx hb dX4_lay_24 rfl (lv_at hl 1 rfl) ?_
        refine xgT_L_items hx hb hts (fun _ h => List.mem_cons_of_mem _ (List.mem_append_right _ h)) hown hK hP (hts (.fieldLink RX4 18 "TalePlay$Lines" "items" "[J") (List.mem_cons_of_mem _ (List.mem_append_left _ (List.mem_of_getElem? (i := 2) rfl)))) dX4_lay_25 ?_
        refine lv_iload_n hx hb dX4_lay_28 rfl (lv_at hl 2 rfl) ?_
        refine lv_bipush (v := 12) hx hb dX4_lay_29 (by decide) ?_
        refine lv_imul hx hb dX4_lay_31 ?_
        refine lv_topi (fun x3 ex3 => ?_)
        have tx3 := ti_mul (a := w.toInt) (b := 12) ex3 rfl (by decide) (by omega) (by omega)
        refine lv_iload hx hb dX4_lay_32 (lv_at hl 0 rfl) ?_
        refine lv_iadd hx hb dX4_lay_34 ?_
        refine lv_topi (fun x4 ex4 => ?_)
        have tx4 := ti_add (a := (w.toInt * 12)) (b := y1_4.toInt) ex4 tx3 rfl (by omega) (by omega)
        refine lv_lconst (v := 0) hx hb dX4_lay_35 (by decide) ?_
        refine xsT_160 hx hb hK hP hD hS (vp_in_iff.mpr (by have h9 : x4.toInt = ((w.toInt * 12) + y1_4.toInt) := tx4; omega)) dX4_lay_36 (fun H locs hP hD hS => ?_)
        obtain ⟨x5, ex5⟩ : ∃ y : Int32, y = y1_4 + 1 := ⟨_, rfl⟩
        have tx5 := ti_add (a := y1_4.toInt) (b := 1) ex5 rfl (by decide) (by omega) (by omega)
        refine lv_iinc (v := x5) (lv' := [(4, .int x5), (0, .ref (a 157)), (1, .int w), (2, .int s1), (3, .int n1)]) hx hb dX4_lay_37 hl (k := 0) rfl (by rw [ex5]; rfl) (by decide) rfl (fun ls hl => ?_)
        refine lv_goto (tgt := 17) hx hb dX4_lay_40 (by decide) ?_
        exact ih1 i1 q1 c1 (updD d1 160 (x4 : Int32).toNatClampNeg 0) x5 hI (fr_w hfi (by decide)) (fr_w hfc (by decide)) (show 0 ≤ x5.toInt ∧ x5.toInt ≤ 12 from by have h50 : x5.toInt = (y1_4.toInt + 1) := tx5; omega) (show (c1 158) = upd (c 158) w.toNatClampNeg s1 from hz1_0) (show (c1 159) = upd (c 159) w.toNatClampNeg n1 from hz1_1) (by have h50 : x5.toInt = (y1_4.toInt + 1) := tx5; omega) _ _ _ hP hD hS (lv_sub hl [0, 1, 2, 3, 4] rfl)
  exact lp1 _ i q (updA (updA c 158 (w : Int32).toNatClampNeg s1) 159 (w : Int32).toNatClampNeg n1) d (0 : Int32) hI (fr_w hfi (by decide)) (fr_w hfc (by decide)) (show 0 ≤ (0 : Int32).toInt ∧ (0 : Int32).toInt ≤ 12 from by have h50 : (0 : Int32).toInt = 0 := (by decide); omega) (show ((updA (updA c 158 (w : Int32).toNatClampNeg s1) 159 (w : Int32).toNatClampNeg n1) 158) = upd (c 158) w.toNatClampNeg s1 from rfl) (show ((updA (updA c 158 (w : Int32).toNatClampNeg s1) 159 (w : Int32).toNatClampNeg n1) 159) = upd (c 159) w.toNatClampNeg n1 from rfl) (Nat.lt_succ_self _) _ _ _ hP hD hS (lv_sub hl [0, 1, 2, 3, 4] rfl)

def wm_X11_line_e : List Cond := .code yX11_line cX11_line 4 (some .int) :: ((([.fieldLink RX11 10 "TalePlay" "world" "LTalePlay$World;", .methodLink RX11 109 yX10_hasObject, .instanceMethod yX10_hasObject, .selects RX10 yX10_hasObject yX10_hasObject, .initialized RX10, .code yX10_hasObject cX10_hasObject 2 (some .boolean), .fieldLink RX10 37 "TalePlay$World" "objects" "I", .methodLink RX11 91 yX11_isBelow, .static yX11_isBelow, .initialized RX11, .code yX11_isBelow cX11_isBelow 2 (some .boolean), .fieldLink RX11 53 "TalePlay" "lines" "LTalePlay$Lines;", .methodLink RX11 304 yX4_lay, .instanceMethod yX4_lay, .selects RX4 yX4_lay yX4_lay, .initialized RX4] : List Cond) ++ ([.code yX4_lay cX4_lay 5 none, .fieldLink RX4 9 "TalePlay$Lines" "sorts" "[I", .fieldLink RX4 15 "TalePlay$Lines" "lengths" "[I", .fieldLink RX4 18 "TalePlay$Lines" "items" "[J", .methodLink RX11 128 yX11_answerFinding, .instanceMethod yX11_answerFinding, .selects RX11 yX11_answerFinding yX11_answerFinding, .code yX11_answerFinding cX11_answerFinding 2 (some .int), .fieldLink RX11 72 "TalePlay" "latestFinding" "I", .fieldLink RX11 68 "TalePlay" "findingCounts" "[I"] : List Cond)) ++ wsX110 ++ wsX100 ++ wsX40)
set_option maxRecDepth 20000 in
theorem gm_X11_line_e_X10_hasObject_109 : GoodIn wm_X11_line_e (wsV RX11 109 RX10 yX10_hasObject wm_X10_hasObject) := goodIn_w (List.forall_mem_append.mpr ⟨List.forall_mem_cons.mpr ⟨List.mem_cons_of_mem _ (List.mem_append_left _ (List.mem_append_left _ (List.mem_append_left _ (List.mem_append_left _ (List.mem_of_getElem? (i := 1) rfl))))), List.forall_mem_cons.mpr ⟨List.mem_cons_of_mem _ (List.mem_append_left _ (List.mem_append_left _ (List.mem_append_left _ (List.mem_append_left _ (List.mem_of_getElem? (i := 2) rfl))))), List.forall_mem_cons.mpr ⟨List.mem_cons_of_mem _ (List.mem_append_left _ (List.mem_append_left _ (List.mem_append_left _ (List.mem_append_left _ (List.mem_of_getElem? (i := 3) rfl))))), List.forall_mem_cons.mpr ⟨List.mem_cons_of_mem _ (List.mem_append_left _ (List.mem_append_left _ (List.mem_append_left _ (List.mem_append_left _ (List.mem_of_getElem? (i := 4) rfl))))), (fun _ h => absurd h List.not_mem_nil)⟩⟩⟩⟩, List.forall_mem_cons.mpr ⟨List.mem_cons_of_mem _ (List.mem_append_left _ (List.mem_append_left _ (List.mem_append_left _ (List.mem_append_left _ (List.mem_of_getElem? (i := 5) rfl))))), List.forall_mem_append.mpr ⟨List.forall_mem_cons.mpr ⟨List.mem_cons_of_mem _ (List.mem_append_left _ (List.mem_append_left _ (List.mem_append_left _ (List.mem_append_left _ (List.mem_of_getElem? (i := 6) rfl))))), (fun _ h => absurd h List.not_mem_nil)⟩, (fun _ h => List.mem_cons_of_mem _ (List.mem_append_left _ (List.mem_append_right _ h)))⟩⟩⟩) (by decide +kernel)
set_option maxRecDepth 20000 in
theorem gm_X11_line_e_X11_isBelow_91 : GoodIn wm_X11_line_e (va_wsS RX11 91 yX11_isBelow wm_X11_isBelow) := goodIn_w (List.forall_mem_append.mpr ⟨List.forall_mem_cons.mpr ⟨List.mem_cons_of_mem _ (List.mem_append_left _ (List.mem_append_left _ (List.mem_append_left _ (List.mem_append_left _ (List.mem_of_getElem? (i := 7) rfl))))), List.forall_mem_cons.mpr ⟨List.mem_cons_of_mem _ (List.mem_append_left _ (List.mem_append_left _ (List.mem_append_left _ (List.mem_append_left _ (List.mem_of_getElem? (i := 8) rfl))))), List.forall_mem_cons.mpr ⟨List.mem_cons_of_mem _ (List.mem_append_left _ (List.mem_append_left _ (List.mem_append_left _ (List.mem_append_left _ (List.mem_of_getElem? (i := 9) rfl))))), (fun _ h => absurd h List.not_mem_nil)⟩⟩⟩, List.forall_mem_cons.mpr ⟨List.mem_cons_of_mem _ (List.mem_append_left _ (List.mem_append_left _ (List.mem_append_left _ (List.mem_append_left _ (List.mem_of_getElem? (i := 10) rfl))))), (fun _ h => absurd h List.not_mem_nil)⟩⟩) (by decide +kernel)
set_option maxRecDepth 20000 in
theorem gm_X11_line_e_X4_lay_e_304 : GoodIn wm_X11_line_e (wsV RX11 304 RX4 yX4_lay wm_X4_lay_e) := goodIn_w (List.forall_mem_append.mpr ⟨List.forall_mem_cons.mpr ⟨List.mem_cons_of_mem _ (List.mem_append_left _ (List.mem_append_left _ (List.mem_append_left _ (List.mem_append_left _ (List.mem_of_getElem? (i := 12) rfl))))), List.forall_mem_cons.mpr ⟨List.mem_cons_of_mem _ (List.mem_append_left _ (List.mem_append_left _ (List.mem_append_left _ (List.mem_append_left _ (List.mem_of_getElem? (i := 13) rfl))))), List.forall_mem_cons.mpr ⟨List.mem_cons_of_mem _ (List.mem_append_left _ (List.mem_append_left _ (List.mem_append_left _ (List.mem_append_left _ (List.mem_of_getElem? (i := 14) rfl))))), List.forall_mem_cons.mpr ⟨List.mem_cons_of_mem _ (List.mem_append_left _ (List.mem_append_left _ (List.mem_append_left _ (List.mem_append_left _ (List.mem_of_getElem? (i := 15) rfl))))), (fun _ h => absurd h List.not_mem_nil)⟩⟩⟩⟩, List.forall_mem_cons.mpr ⟨List.mem_cons_of_mem _ (List.mem_append_left _ (List.mem_append_left _ (List.mem_append_left _ (List.mem_append_right _ (List.mem_of_getElem? (i := 0) rfl))))), List.forall_mem_append.mpr ⟨List.forall_mem_cons.mpr ⟨List.mem_cons_of_mem _ (List.mem_append_left _ (List.mem_append_left _ (List.mem_append_left _ (List.mem_append_right _ (List.mem_of_getElem? (i := 1) rfl))))), List.forall_mem_cons.mpr ⟨List.mem_cons_of_mem _ (List.mem_append_left _ (List.mem_append_left _ (List.mem_append_left _ (List.mem_append_right _ (List.mem_of_getElem? (i := 2) rfl))))), List.forall_mem_cons.mpr ⟨List.mem_cons_of_mem _ (List.mem_append_left _ (List.mem_append_left _ (List.mem_append_left _ (List.mem_append_right _ (List.mem_of_getElem? (i := 3) rfl))))), (fun _ h => absurd h List.not_mem_nil)⟩⟩⟩, (fun _ h => List.mem_cons_of_mem _ (List.mem_append_right _ h))⟩⟩⟩) (by decide +kernel)
set_option maxRecDepth 20000 in
theorem gm_X11_line_e_X11_answerFinding_128 : GoodIn wm_X11_line_e (wsV RX11 128 RX11 yX11_answerFinding wm_X11_answerFinding) := goodIn_w (List.forall_mem_append.mpr ⟨List.forall_mem_cons.mpr ⟨List.mem_cons_of_mem _ (List.mem_append_left _ (List.mem_append_left _ (List.mem_append_left _ (List.mem_append_right _ (List.mem_of_getElem? (i := 4) rfl))))), List.forall_mem_cons.mpr ⟨List.mem_cons_of_mem _ (List.mem_append_left _ (List.mem_append_left _ (List.mem_append_left _ (List.mem_append_right _ (List.mem_of_getElem? (i := 5) rfl))))), List.forall_mem_cons.mpr ⟨List.mem_cons_of_mem _ (List.mem_append_left _ (List.mem_append_left _ (List.mem_append_left _ (List.mem_append_right _ (List.mem_of_getElem? (i := 6) rfl))))), List.forall_mem_cons.mpr ⟨List.mem_cons_of_mem _ (List.mem_append_left _ (List.mem_append_left _ (List.mem_append_left _ (List.mem_append_left _ (List.mem_of_getElem? (i := 9) rfl))))), (fun _ h => absurd h List.not_mem_nil)⟩⟩⟩⟩, List.forall_mem_cons.mpr ⟨List.mem_cons_of_mem _ (List.mem_append_left _ (List.mem_append_left _ (List.mem_append_left _ (List.mem_append_right _ (List.mem_of_getElem? (i := 7) rfl))))), List.forall_mem_append.mpr ⟨List.forall_mem_cons.mpr ⟨List.mem_cons_of_mem _ (List.mem_append_left _ (List.mem_append_left _ (List.mem_append_left _ (List.mem_append_right _ (List.mem_of_getElem? (i := 8) rfl))))), List.forall_mem_cons.mpr ⟨List.mem_cons_of_mem _ (List.mem_append_left _ (List.mem_append_left _ (List.mem_append_left _ (List.mem_append_right _ (List.mem_of_getElem? (i := 9) rfl))))), (fun _ h => absurd h List.not_mem_nil)⟩⟩, (fun _ h => List.mem_cons_of_mem _ (List.mem_append_left _ (List.mem_append_left _ (List.mem_append_right _ h))))⟩⟩⟩) (by decide +kernel)
set_option maxHeartbeats 4000000 in
set_option maxRecDepth 100000 in
theorem x_X11_line_e (l : Launch) (D : va_G) (sz : Nat) (sk : Value) (a : Nat → Nat) (t : Nat → ClassId) (i : Nat → Int32) (q : Int64) (c : Nat → Nat → Int32) (d : Nat → Nat → Int64) (w : Int32) (s1 : Int32) (n1 : Int32) (hI : xInv i c) : Met l yX11_line wm_X11_line_e ({ frames := 1, cells := 0, slots := 0, locals := 24 }) (va_Pc [.ref (a 100), .int w, .int s1, .int n1] (yB (a 186) D sz (xwT sk a t i q c d) (xtT t))) (va_Qi (fun (r : Int32) (u : MS) => True ∧ xInv u.1 u.2.2.1 ∧ (∀ k, k ∉ ([102] : List Nat) → u.1 k = i k) ∧ (∀ k, k ∉ ([101, 158, 159] : List Nat) → u.2.2.1 k = c k) ∧ ((¬ (0 ≤ w.toInt ∧ w.toInt < (i 111).toInt ∧ 0 ≤ s1.toInt ∧ s1.toInt ≤ 3 ∧ n1.toInt ≤ 12) ∧ r.toInt = -1) ∨ (0 ≤ w.toInt ∧ w.toInt < (i 111).toInt ∧ 0 ≤ s1.toInt ∧ s1.toInt ≤ 3 ∧ n1.toInt ≤ 12 ∧ n1.toInt < 0 ∧ r.toInt = -3) ∨ (0 ≤ w.toInt ∧ w.toInt < (i 111).toInt ∧ 0 ≤ s1.toInt ∧ s1.toInt ≤ 3 ∧ n1.toInt ≤ 12 ∧ 0 ≤ n1.toInt ∧ r.toInt = n1.toInt)) ∧ (LU (c 158) (c 159) (u.2.2.1 158) (u.2.2.1 159) w s1 n1 (i 111).toInt)) (oC D (va_A (xwT sk a t i q c d) sz) (fun u : MS => xwT sk a t u.1 u.2.1 u.2.2.1 u.2.2.2) (fun _ => [])) (va_A (xwT sk a t i q c d) sz)) 0 0 (va_A (xwT sk a t i q c d) sz) := by
  refine Met.ofW (cc := cX11_line) (maxL := 4) (ret := (some .int)) (by decide) rfl ?_
  intro p e s m args below meth cd s₁ B hml hv
  obtain ⟨rfl, ⟨hsz, hP, hK, hD0⟩, hN, hZ, hBW⟩ := hv
  have hx := B.exec
  have hb := B.bytes
  have hr := B.returns
  have hts := atoms_spec (ws := wm_X11_line_e) B.pre
  have hown : s.vm.findClass RX11 = some m.cls := findClass_of_methodNamed B.named
  have hlocks := B.notSynchronized
  subst hsz
  have hD := hD0.self (sz := s.heap.size)
  have hZ := xZ_A hZ hP hBW
  generalize hAe : va_A (xwT sk a t i q c d) s.heap.size = A at hD hZ ⊢
  have hA : ∀ q : Nat, s.heap.size ≤ q → A q := fun q h => by rw [← hAe]; exact Or.inr h
  have hS : va_S A s.heap s.heap [] := va_S.rf
  have hfi : ∀ k, k ∉ ([] : List Nat) → i k = i k := fun _ _ => rfl
  have hfc : ∀ k, k ∉ ([] : List Nat) → c k = c k := fun _ _ => rfl
  have hl := lv_entry ([.ref (a 100), .int w, .int s1, .int n1]) (n := 4) (Nat.le_of_ble_eq_true rfl)
  rw [lg_entry_eq]
  generalize (lg_sl ([.ref (a 100), .int w, .int s1, .int n1]) ++ List.replicate (4 - (lg_sl ([.ref (a 100), .int w, .int s1, .int n1])).length) Slot.unset).toArray = ls at hl ⊢
  have hl : lv_has ls 4 [(0, .ref (a 100)), (1, .int w), (2, .int s1), (3, .int n1)] := hl
  have rb111_i : 0 ≤ (i 111).toInt ∧ (i 111).toInt ≤ 30 := hI.1 111
  refine lv_aload_n hx hb dX11_line_0 rfl (lv_at hl 0 rfl) ?_
  refine xgT_X_world hx hb hts (fun _ h => List.mem_cons_of_mem _ (List.mem_append_left _ (List.mem_append_left _ (List.mem_append_right _ h)))) hown hK hP (hts (.fieldLink RX11 10 "TalePlay" "world" "LTalePlay$World;") (List.mem_cons_of_mem _ (List.mem_append_left _ (List.mem_append_left _ (List.mem_append_left _ (List.mem_append_left _ (List.mem_of_getElem? (i := 0) rfl))))))) dX11_line_1 ?_
  refine lv_iload_n hx hb dX11_line_4 rfl (lv_at hl 1 rfl) ?_
  refine ro_calli (va_runV (As := [.int w]) (rest := []) ⟨hx, hb, hml, hown, hts⟩ (x_X10_hasObject l D s.heap.size .null a t i q c d w hI ) (cwV 1 hts gm_X11_line_e_X10_hasObject_109 rfl rfl rfl (by decide +kernel) ⟨Nat.le_of_ble_eq_true rfl, Nat.le_of_ble_eq_true rfl⟩) (yA_V hN (xZ_k hZ hS hA) (xkT_W hK) (xuT_W (sk := sk) hP) (ci := 10) (q0 := 0) rfl rfl) rfl rfl hl.1 rfl (lv_room (Nat.le_of_ble_eq_true rfl)) dX11_line_5 ⟨Nat.le_of_ble_eq_true rfl, Nat.le_of_ble_eq_true rfl⟩) hS hA hP (fun r1 u1 H locs hw1 hP hS => ?_)
  have hw1 : r1 = if (0 ≤ w.toInt ∧ w.toInt < (i 111).toInt) then 1 else 0 := hw1
  refine lv_if_eq (tgt := 25) hx hb dX11_line_8 (by decide) (fun c2 => ?_) (fun c2 => ?_)
  · have f2 := fl_f hw1 c2
    refine lv_iconst (v := (-1)) hx hb dX11_line_25 (by decide) ?_
    exact rw_iret (i, q, c, d) hx hb hr hlocks hS (hK.sub (tys' := []) [] rfl) hP hD dX11_line_26 ⟨trivial, hI, fr_w hfi (by decide), fr_w hfc (by decide), (show (¬ (0 ≤ w.toInt ∧ w.toInt < (i 111).toInt ∧ 0 ≤ s1.toInt ∧ s1.toInt ≤ 3 ∧ n1.toInt ≤ 12) ∧ ((-1) : Int32).toInt = -1) ∨ (0 ≤ w.toInt ∧ w.toInt < (i 111).toInt ∧ 0 ≤ s1.toInt ∧ s1.toInt ≤ 3 ∧ n1.toInt ≤ 12 ∧ n1.toInt < 0 ∧ ((-1) : Int32).toInt = -3) ∨ (0 ≤ w.toInt ∧ w.toInt < (i 111).toInt ∧ 0 ≤ s1.toInt ∧ s1.toInt ≤ 3 ∧ n1.toInt ≤ 12 ∧ 0 ≤ n1.toInt ∧ ((-1) : Int32).toInt = n1.toInt) from by have h50 : ((-1) : Int32).toInt = -1 := (by decide); omega), (show LU (c 158) (c 159) (c 158) (c 159) w s1 n1 (i 111).toInt from Or.inl ⟨by unfold LB; omega, rfl, rfl⟩)⟩
  · have f2 := fl_t hw1 c2
    refine lv_iload_n hx hb dX11_line_11 rfl (lv_at hl 2 rfl) ?_
    refine lv_iconst (v := 4) hx hb dX11_line_12 (by decide) ?_
    have hPc := hP.sub (ws' := []) [] rfl
    have hKc := hK.sub (tys' := []) [] rfl
    refine ro_calli (va_runS (As := [.int s1, .int 4]) (rest := []) ⟨hx, hb, hml, hown, hts⟩ (c_X11_isBelow l D H.size s1 4 s1.toInt 4 rfl (by decide)) (va_cwS 2 hts gm_X11_line_e_X11_isBelow_91 rfl rfl rfl (by decide +kernel) ⟨Nat.le_of_ble_eq_true rfl, Nat.le_of_ble_eq_true rfl⟩) (pA_S hKc hPc) rfl rfl hl.1 rfl (lv_room (Nat.le_of_ble_eq_true rfl)) dX11_line_13 ⟨Nat.le_of_ble_eq_true rfl, Nat.le_of_ble_eq_true rfl⟩) hS hA hP (fun r4 u4 H locs hw4 hP hS => ?_)
    have hw4 : r4 = if (0 ≤ s1.toInt ∧ s1.toInt < 4) then 1 else 0 := hw4
    refine lv_if_eq (tgt := 25) hx hb dX11_line_16 (by decide) (fun c5 => ?_) (fun c5 => ?_)
    · have f5 := fl_f hw4 c5
      refine lv_iconst (v := (-1)) hx hb dX11_line_25 (by decide) ?_
      exact rw_iret (i, q, c, d) hx hb hr hlocks hS (hK.sub (tys' := []) [] rfl) hP hD dX11_line_26 ⟨trivial, hI, fr_w hfi (by decide), fr_w hfc (by decide), (show (¬ (0 ≤ w.toInt ∧ w.toInt < (i 111).toInt ∧ 0 ≤ s1.toInt ∧ s1.toInt ≤ 3 ∧ n1.toInt ≤ 12) ∧ ((-1) : Int32).toInt = -1) ∨ (0 ≤ w.toInt ∧ w.toInt < (i 111).toInt ∧ 0 ≤ s1.toInt ∧ s1.toInt ≤ 3 ∧ n1.toInt ≤ 12 ∧ n1.toInt < 0 ∧ ((-1) : Int32).toInt = -3) ∨ (0 ≤ w.toInt ∧ w.toInt < (i 111).toInt ∧ 0 ≤ s1.toInt ∧ s1.toInt ≤ 3 ∧ n1.toInt ≤ 12 ∧ 0 ≤ n1.toInt ∧ ((-1) : Int32).toInt = n1.toInt) from by have h50 : ((-1) : Int32).toInt = -1 := (by decide); omega), (show LU (c 158) (c 159) (c 158) (c 159) w s1 n1 (i 111).toInt from Or.inl ⟨by unfold LB; omega, rfl, rfl⟩)⟩
    · have f5 := fl_t hw4 c5
      refine lv_iload_n hx hb dX11_line_19 rfl (lv_at hl 3 rfl) ?_
      refine lv_bipush (v := 12) hx hb dX11_line_20 (by decide) ?_
      refine lv_icmp_le (tgt := 27) hx hb dX11_line_22 (by decide) (fun c6 => ?_) (fun c6 => ?_)
      · have f6 := (ti_le (a := n1.toInt) (b := 12) rfl (by decide)).mp c6
        refine lv_iload_n hx hb dX11_line_27 rfl (lv_at hl 3 rfl) ?_
        refine lv_if_ge (tgt := 37) hx hb dX11_line_28 (by decide) (fun c7 => ?_) (fun c7 => ?_)
        · have f7 := (ti_le (a := 0) (b := n1.toInt) (by decide) rfl).mp c7
          refine lv_aload_n hx hb dX11_line_37 rfl (lv_at hl 0 rfl) ?_
          refine xgT_X_lines hx hb hts (fun _ h => List.mem_cons_of_mem _ (List.mem_append_left _ (List.mem_append_left _ (List.mem_append_right _ h)))) hown hK hP (hts (.fieldLink RX11 53 "TalePlay" "lines" "LTalePlay$Lines;") (List.mem_cons_of_mem _ (List.mem_append_left _ (List.mem_append_left _ (List.mem_append_left _ (List.mem_append_left _ (List.mem_of_getElem? (i := 11) rfl))))))) dX11_line_38 ?_
          refine lv_iload_n hx hb dX11_line_41 rfl (lv_at hl 1 rfl) ?_
          refine lv_iload_n hx hb dX11_line_42 rfl (lv_at hl 2 rfl) ?_
          refine lv_iload_n hx hb dX11_line_43 rfl (lv_at hl 3 rfl) ?_
          refine al_callv (va_runV (As := [.int w, .int s1, .int n1]) (rest := []) ⟨hx, hb, hml, hown, hts⟩ (x_X4_lay_e l D H.size sk a t i q c d w s1 n1 hI (show 0 ≤ w.toInt ∧ w.toInt ≤ 29 from by omega) (show 0 ≤ s1.toInt ∧ s1.toInt ≤ 3 from by omega) (show 0 ≤ n1.toInt ∧ n1.toInt ≤ 12 from by omega)) (cwV 3 hts gm_X11_line_e_X4_lay_e_304 rfl rfl rfl (by decide +kernel) ⟨Nat.le_of_ble_eq_true rfl, Nat.le_of_ble_eq_true rfl⟩) (yB_V hN (xZ_k hZ hS hA) (xZ_n hZ hD) hK hP hD (ci := 4) (q0 := 43) rfl rfl) rfl rfl hl.1 rfl (lv_room (Nat.le_of_ble_eq_true rfl)) dX11_line_44 ⟨Nat.le_of_ble_eq_true rfl, Nat.le_of_ble_eq_true rfl⟩) hS hA hP hD (fun u8 H locs hw8 hP hD hS => ?_)
          obtain ⟨i8, q8, c8, d8⟩ := u8
          have hw8 : True ∧ xInv i8 c8 ∧ (∀ k, k ∉ ([] : List Nat) → i8 k = i k) ∧ (∀ k, k ∉ ([158, 159] : List Nat) → c8 k = c k) ∧ ((c8 158) = upd (c 158) w.toNatClampNeg s1) ∧ ((c8 159) = upd (c 159) w.toNatClampNeg n1) := hw8
          obtain ⟨hw8, hI, hei8, hec8, hxp8_0, hxp8_1⟩ := hw8
          have hxp8_0 : (c8 158) = upd (c 158) w.toNatClampNeg s1 := hxp8_0
          have hxp8_1 : (c8 159) = upd (c 159) w.toNatClampNeg n1 := hxp8_1
          have hfi : ∀ k, k ∉ ([] : List Nat) → i8 k = i k := fr_z hfi hei8 (by decide) (by decide)
          have hfc : ∀ k, k ∉ ([158, 159] : List Nat) → c8 k = c k := fr_z hfc hec8 (by decide) (by decide)
          refine lv_iload_n hx hb dX11_line_47 rfl (lv_at hl 3 rfl) ?_
          exact rw_iret (i8, q8, c8, d8) hx hb hr hlocks hS (hK.sub (tys' := []) [] rfl) hP hD dX11_line_48 ⟨trivial, hI, fr_w hfi (by decide), fr_w hfc (by decide), (show (¬ (0 ≤ w.toInt ∧ w.toInt < (i 111).toInt ∧ 0 ≤ s1.toInt ∧ s1.toInt ≤ 3 ∧ n1.toInt ≤ 12) ∧ (n1 : Int32).toInt = -1) ∨ (0 ≤ w.toInt ∧ w.toInt < (i 111).toInt ∧ 0 ≤ s1.toInt ∧ s1.toInt ≤ 3 ∧ n1.toInt ≤ 12 ∧ n1.toInt < 0 ∧ (n1 : Int32).toInt = -3) ∨ (0 ≤ w.toInt ∧ w.toInt < (i 111).toInt ∧ 0 ≤ s1.toInt ∧ s1.toInt ≤ 3 ∧ n1.toInt ≤ 12 ∧ 0 ≤ n1.toInt ∧ (n1 : Int32).toInt = n1.toInt) from by omega), (show LU (c 158) (c 159) (c8 158) (c8 159) w s1 n1 (i 111).toInt from Or.inr ⟨by unfold LB; omega, hxp8_0, hxp8_1⟩)⟩
        · have f7 := mt (ti_le (a := 0) (b := n1.toInt) (by decide) rfl).mpr c7
          refine lv_aload_n hx hb dX11_line_31 rfl (lv_at hl 0 rfl) ?_
          refine lv_iconst (v := 5) hx hb dX11_line_32 (by decide) ?_
          refine al_calli (va_runV (As := [.int 5]) (rest := []) ⟨hx, hb, hml, hown, hts⟩ (x_X11_answerFinding l D H.size sk a t i q c d 5 hI (show 1 ≤ 5 ∧ 5 ≤ 6 from by have h90 : (5 : Int32).toInt = 5 := (by decide); omega)) (cwV 1 hts gm_X11_line_e_X11_answerFinding_128 rfl rfl rfl (by decide +kernel) ⟨Nat.le_of_ble_eq_true rfl, Nat.le_of_ble_eq_true rfl⟩) (yB_V hN (xZ_k hZ hS hA) (xZ_n hZ hD) hK hP hD (ci := 11) (q0 := 0) rfl rfl) rfl rfl hl.1 rfl (lv_room (Nat.le_of_ble_eq_true rfl)) dX11_line_33 ⟨Nat.le_of_ble_eq_true rfl, Nat.le_of_ble_eq_true rfl⟩) hS hA hP hD (fun r9 u9 H locs hw9 hP hD hS => ?_)
          obtain ⟨i9, q9, c9, d9⟩ := u9
          have hw9 : r9 = (-3) ∧ xInv i9 c9 ∧ (∀ k, k ∉ ([102] : List Nat) → i9 k = i k) ∧ (∀ k, k ∉ ([101] : List Nat) → c9 k = c k) := hw9
          obtain ⟨hw9, hI, hei9, hec9⟩ := hw9
          have hfi : ∀ k, k ∉ ([102] : List Nat) → i9 k = i k := fr_z hfi hei9 (by decide) (by decide)
          have hfc : ∀ k, k ∉ ([101] : List Nat) → c9 k = c k := fr_z hfc hec9 (by decide) (by decide)
          have hw9 : r9 = (-3) := hw9
          subst hw9
          exact rw_iret (i9, q9, c9, d9) hx hb hr hlocks hS (hK.sub (tys' := []) [] rfl) hP hD dX11_line_36 ⟨trivial, hI, fr_w hfi (by decide), fr_w hfc (by decide), (show (¬ (0 ≤ w.toInt ∧ w.toInt < (i 111).toInt ∧ 0 ≤ s1.toInt ∧ s1.toInt ≤ 3 ∧ n1.toInt ≤ 12) ∧ ((-3) : Int32).toInt = -1) ∨ (0 ≤ w.toInt ∧ w.toInt < (i 111).toInt ∧ 0 ≤ s1.toInt ∧ s1.toInt ≤ 3 ∧ n1.toInt ≤ 12 ∧ n1.toInt < 0 ∧ ((-3) : Int32).toInt = -3) ∨ (0 ≤ w.toInt ∧ w.toInt < (i 111).toInt ∧ 0 ≤ s1.toInt ∧ s1.toInt ≤ 3 ∧ n1.toInt ≤ 12 ∧ 0 ≤ n1.toInt ∧ ((-3) : Int32).toInt = n1.toInt) from by have h50 : ((-3) : Int32).toInt = -3 := (by decide); omega), (show LU (c 158) (c 159) (c9 158) (c9 159) w s1 n1 (i 111).toInt from Or.inl ⟨by unfold LB; omega, hfc 158 (by decide), hfc 159 (by decide)⟩)⟩
      · have f6 := mt (ti_le (a := n1.toInt) (b := 12) rfl (by decide)).mpr c6
        refine lv_iconst (v := (-1)) hx hb dX11_line_25 (by decide) ?_
        exact rw_iret (i, q, c, d) hx hb hr hlocks hS (hK.sub (tys' := []) [] rfl) hP hD dX11_line_26 ⟨trivial, hI, fr_w hfi (by decide), fr_w hfc (by decide), (show (¬ (0 ≤ w.toInt ∧ w.toInt < (i 111).toInt ∧ 0 ≤ s1.toInt ∧ s1.toInt ≤ 3 ∧ n1.toInt ≤ 12) ∧ ((-1) : Int32).toInt = -1) ∨ (0 ≤ w.toInt ∧ w.toInt < (i 111).toInt ∧ 0 ≤ s1.toInt ∧ s1.toInt ≤ 3 ∧ n1.toInt ≤ 12 ∧ n1.toInt < 0 ∧ ((-1) : Int32).toInt = -3) ∨ (0 ≤ w.toInt ∧ w.toInt < (i 111).toInt ∧ 0 ≤ s1.toInt ∧ s1.toInt ≤ 3 ∧ n1.toInt ≤ 12 ∧ 0 ≤ n1.toInt ∧ ((-1) : Int32).toInt = n1.toInt) from by have h50 : ((-1) : Int32).toInt = -1 := (by decide); omega), (show LU (c 158) (c 159) (c 158) (c 159) w s1 n1 (i 111).toInt from Or.inl ⟨by unfold LB; omega, rfl, rfl⟩)⟩

set_option maxHeartbeats 4000000 in
set_option maxRecDepth 100000 in
theorem s_X12_line_e (l : Launch) (D : va_G) (sz : Nat) (o : Nat) (a : Nat → Nat) (t : Nat → ClassId) (i : Nat → Int32) (q : Int64) (c : Nat → Nat → Int32) (d : Nat → Nat → Int64) (w : Int32) (s1 : Int32) (n1 : Int32) (hI : mInv i c) : Met l yX12_line wm_X12_line ({ frames := 2, cells := 0, slots := 0, locals := 46 }) (va_Pc [.ref o, .int w, .int s1, .int n1] (pB D sz (mW o a t i q c d) (mT t))) (va_Qi (fun (r : Int32) (u : MS) => True ∧ mInv u.1 u.2.2.1 ∧ (∀ k, k ∉ ([0] : List Nat) → u.1 k = i k) ∧ (∀ k, k ∉ ([1, 60, 61, 63] : List Nat) → u.2.2.1 k = c k) ∧ ((¬ (0 ≤ w.toInt ∧ w.toInt < (i 5).toInt ∧ 0 ≤ s1.toInt ∧ s1.toInt ≤ 3 ∧ n1.toInt ≤ 12) ∧ r.toInt = -1) ∨ (0 ≤ w.toInt ∧ w.toInt < (i 5).toInt ∧ 0 ≤ s1.toInt ∧ s1.toInt ≤ 3 ∧ n1.toInt ≤ 12 ∧ n1.toInt < 0 ∧ r.toInt = -3) ∨ (0 ≤ w.toInt ∧ w.toInt < (i 5).toInt ∧ 0 ≤ s1.toInt ∧ s1.toInt ≤ 3 ∧ n1.toInt ≤ 12 ∧ 0 ≤ n1.toInt ∧ r.toInt = n1.toInt)) ∧ (LV (c 63) (c 60) (c 61) (u.2.2.1 63) (u.2.2.1 60) (u.2.2.1 61) w s1 n1 (i 5).toInt)) (oC D (va_A (mW o a t i q c d) sz) (fun u : MS => mW o a t u.1 u.2.1 u.2.2.1 u.2.2.2) (fun _ => [])) (va_A (mW o a t i q c d) sz)) 0 0 (va_A (mW o a t i q c d) sz) := by
  refine Met.ofW (cc := cX12_line) (maxL := 5) (ret := (some .int)) (by decide) rfl ?_
  intro p e s m args below meth cd s₁ B hml hv
  obtain ⟨rfl, hsz, hP, hK, hD0⟩ := hv
  have hx := B.exec
  have hb := B.bytes
  have hr := B.returns
  have hts := atoms_spec (ws := wm_X12_line) B.pre
  have hown : s.vm.findClass RX12 = some m.cls := findClass_of_methodNamed B.named
  have hlocks := B.notSynchronized
  subst hsz
  have hD := hD0.self (sz := s.heap.size)
  generalize hAe : va_A (mW o a t i q c d) s.heap.size = A at hD ⊢
  have hA : ∀ q : Nat, s.heap.size ≤ q → A q := fun q h => by rw [← hAe]; exact Or.inr h
  have hS : va_S A s.heap s.heap [] := va_S.rf
  have hfi : ∀ k, k ∉ ([] : List Nat) → i k = i k := fun _ _ => rfl
  have hfc : ∀ k, k ∉ ([] : List Nat) → c k = c k := fun _ _ => rfl
  have hl := lv_entry ([.ref o, .int w, .int s1, .int n1]) (n := 5) (Nat.le_of_ble_eq_true rfl)
  rw [lg_entry_eq]
  generalize (lg_sl ([.ref o, .int w, .int s1, .int n1]) ++ List.replicate (5 - (lg_sl ([.ref o, .int w, .int s1, .int n1])).length) Slot.unset).toArray = ls at hl ⊢
  have hl : lv_has ls 5 [(0, .ref o), (1, .int w), (2, .int s1), (3, .int n1)] := hl
  have rb5_i : 0 ≤ (i 5).toInt ∧ (i 5).toInt ≤ 30 := hI.1 5
  refine lv_aload_n hx hb dX12_line_0 rfl (lv_at hl 0 rfl) ?_
  refine lv_iload_n hx hb dX12_line_1 rfl (lv_at hl 1 rfl) ?_
  refine ro_calli (va_runV (As := [.int w]) (rest := []) ⟨hx, hb, hml, hown, hts⟩ (s_X12_isObject l D s.heap.size o a t i q c d w hI ) (cwV 1 hts gm_X12_line_X12_isObject rfl rfl rfl (by decide +kernel) ⟨Nat.le_of_ble_eq_true rfl, Nat.le_of_ble_eq_true rfl⟩) (pA_V hK hP (ci := 12) (q0 := 0) rfl rfl) rfl rfl hl.1 rfl (lv_room (Nat.le_of_ble_eq_true rfl)) dX12_line_2 ⟨Nat.le_of_ble_eq_true rfl, Nat.le_of_ble_eq_true rfl⟩) hS hA hP (fun r1 u1 H locs hw1 hP hS => ?_)
  have hw1 : r1 = if (0 ≤ w.toInt ∧ w.toInt ≤ (i 5).toInt - 1) then 1 else 0 := hw1
  refine lv_if_eq (tgt := 26) hx hb dX12_line_5 (by decide) (fun c2 => ?_) (fun c2 => ?_)
  · have f2 := fl_f hw1 c2
    refine lv_iconst (v := (-1)) hx hb dX12_line_26 (by decide) ?_
    exact rw_iret (i, q, c, d) hx hb hr hlocks hS (hK.sub (tys' := []) [] rfl) hP hD dX12_line_27 ⟨trivial, hI, fr_w hfi (by decide), fr_w hfc (by decide), (show (¬ (0 ≤ w.toInt ∧ w.toInt < (i 5).toInt ∧ 0 ≤ s1.toInt ∧ s1.toInt ≤ 3 ∧ n1.toInt ≤ 12) ∧ ((-1) : Int32).toInt = -1) ∨ (0 ≤ w.toInt ∧ w.toInt < (i 5).toInt ∧ 0 ≤ s1.toInt ∧ s1.toInt ≤ 3 ∧ n1.toInt ≤ 12 ∧ n1.toInt < 0 ∧ ((-1) : Int32).toInt = -3) ∨ (0 ≤ w.toInt ∧ w.toInt < (i 5).toInt ∧ 0 ≤ s1.toInt ∧ s1.toInt ≤ 3 ∧ n1.toInt ≤ 12 ∧ 0 ≤ n1.toInt ∧ ((-1) : Int32).toInt = n1.toInt) from by have h50 : ((-1) : Int32).toInt = -1 := (by decide); omega), (show LV (c 63) (c 60) (c 61) (c 63) (c 60) (c 61) w s1 n1 (i 5).toInt from Or.inl ⟨by unfold LB; omega, rfl, rfl, rfl⟩)⟩
  · have f2 := fl_t hw1 c2
    refine lv_iload_n hx hb dX12_line_8 rfl (lv_at hl 2 rfl) ?_
    refine lv_i2l (v := s1.toInt64) hx hb dX12_line_9 rfl ?_
    refine lv_lconst (v := 0) hx hb dX12_line_10 (by decide) ?_
    refine lv_ldc2 (v := 3) hx hb hown (hts (.constantLong RX12 279 (3)) (List.mem_cons_of_mem _ (List.mem_append_left _ (List.mem_append_left _ (List.mem_of_getElem? (i := 9) rfl))))) dX12_line_11 ?_
    have hPc := hP.sub (ws' := []) [] rfl
    have hKc := hK.sub (tys' := []) [] rfl
    refine ro_calli (va_runS (As := [.long s1.toInt64, .long 0, .long 3]) (rest := []) ⟨hx, hb, hml, hown, hts⟩ (c_X12_in l D H.size s1.toInt64 0 3 s1.toInt 0 3 ((Int32.toInt_toInt64 s1).trans rfl) (by decide) (by decide)) (va_cwS 3 hts gm_X12_line_X12_in rfl rfl rfl (by decide +kernel) ⟨Nat.le_of_ble_eq_true rfl, Nat.le_of_ble_eq_true rfl⟩) (pA_S hKc hPc) rfl rfl hl.1 rfl (lv_room (Nat.le_of_ble_eq_true rfl)) dX12_line_14 ⟨Nat.le_of_ble_eq_true rfl, Nat.le_of_ble_eq_true rfl⟩) hS hA hP (fun r3 u3 H locs hw3 hP hS => ?_)
    have hw3 : r3 = if (0 ≤ s1.toInt ∧ s1.toInt ≤ 3) then 1 else 0 := hw3
    refine lv_if_eq (tgt := 26) hx hb dX12_line_17 (by decide) (fun c4 => ?_) (fun c4 => ?_)
    · have f4 := fl_f hw3 c4
      refine lv_iconst (v := (-1)) hx hb dX12_line_26 (by decide) ?_
      exact rw_iret (i, q, c, d) hx hb hr hlocks hS (hK.sub (tys' := []) [] rfl) hP hD dX12_line_27 ⟨trivial, hI, fr_w hfi (by decide), fr_w hfc (by decide), (show (¬ (0 ≤ w.toInt ∧ w.toInt < (i 5).toInt ∧ 0 ≤ s1.toInt ∧ s1.toInt ≤ 3 ∧ n1.toInt ≤ 12) ∧ ((-1) : Int32).toInt = -1) ∨ (0 ≤ w.toInt ∧ w.toInt < (i 5).toInt ∧ 0 ≤ s1.toInt ∧ s1.toInt ≤ 3 ∧ n1.toInt ≤ 12 ∧ n1.toInt < 0 ∧ ((-1) : Int32).toInt = -3) ∨ (0 ≤ w.toInt ∧ w.toInt < (i 5).toInt ∧ 0 ≤ s1.toInt ∧ s1.toInt ≤ 3 ∧ n1.toInt ≤ 12 ∧ 0 ≤ n1.toInt ∧ ((-1) : Int32).toInt = n1.toInt) from by have h50 : ((-1) : Int32).toInt = -1 := (by decide); omega), (show LV (c 63) (c 60) (c 61) (c 63) (c 60) (c 61) w s1 n1 (i 5).toInt from Or.inl ⟨by unfold LB; omega, rfl, rfl, rfl⟩)⟩
    · have f4 := fl_t hw3 c4
      refine lv_iload_n hx hb dX12_line_20 rfl (lv_at hl 3 rfl) ?_
      refine lv_bipush (v := 12) hx hb dX12_line_21 (by decide) ?_
      refine lv_icmp_le (tgt := 28) hx hb dX12_line_23 (by decide) (fun c5 => ?_) (fun c5 => ?_)
      · have f5 := (ti_le (a := n1.toInt) (b := 12) rfl (by decide)).mp c5
        refine lv_iload_n hx hb dX12_line_28 rfl (lv_at hl 3 rfl) ?_
        refine lv_if_ge (tgt := 38) hx hb dX12_line_29 (by decide) (fun c6 => ?_) (fun c6 => ?_)
        · have f6 := (ti_le (a := 0) (b := n1.toInt) (by decide) rfl).mp c6
          refine lv_aload_n hx hb dX12_line_38 rfl (lv_at hl 0 rfl) ?_
          refine mget_63 hx hb hts (fun _ h => List.mem_cons_of_mem _ (List.mem_append_right _ h)) hown hK hP (hts (.fieldLink RX12 136 "TalePlayModel" "hasLine" "[Z") (List.mem_cons_of_mem _ (List.mem_append_left _ (List.mem_append_left _ (List.mem_of_getElem? (i := 10) rfl))))) dX12_line_39 ?_
          refine lv_iload_n hx hb dX12_line_42 rfl (lv_at hl 1 rfl) ?_
          refine lv_iconst (v := 1) hx hb dX12_line_43 (by decide) ?_
          refine mst_63 hx hb hK hP hD hS (vp_in_iff.mpr (by have h9 : w.toInt = w.toInt := rfl; omega)) (nb_z (show 0 ≤ (1 : Int32).toInt ∧ (1 : Int32).toInt ≤ 1 from by have h9 : (1 : Int32).toInt = 1 := (by decide); omega)) dX12_line_44 (fun H locs hP hD hS => ?_)
          have hI := mInv_c hI (k := 63) (j := (w : Int32).toNatClampNeg) (x := 1) (show 0 ≤ (1 : Int32).toInt ∧ (1 : Int32).toInt ≤ 1 from by have h9 : (1 : Int32).toInt = 1 := (by decide); omega)
          have hfc : ∀ k, k ∉ ([63] : List Nat) → (updA c 63 (w : Int32).toNatClampNeg 1) k = c k := fr_cz hfc (by decide) (by decide)
          refine lv_aload_n hx hb dX12_line_45 rfl (lv_at hl 0 rfl) ?_
          refine mget_60 hx hb hts (fun _ h => List.mem_cons_of_mem _ (List.mem_append_right _ h)) hown hK hP (hts (.fieldLink RX12 126 "TalePlayModel" "lineSort" "[I") (List.mem_cons_of_mem _ (List.mem_append_left _ (List.mem_append_left _ (List.mem_of_getElem? (i := 11) rfl))))) dX12_line_46 ?_
          refine lv_iload_n hx hb dX12_line_49 rfl (lv_at hl 1 rfl) ?_
          refine lv_iload_n hx hb dX12_line_50 rfl (lv_at hl 2 rfl) ?_
          refine mst_60 hx hb hK hP hD hS (vp_in_iff.mpr (by have h9 : w.toInt = w.toInt := rfl; omega)) dX12_line_51 (fun H locs hP hD hS => ?_)
          have hI := mInv_c hI (k := 60) (j := (w : Int32).toNatClampNeg) (x := s1) (show 0 ≤ (s1 : Int32).toInt ∧ (s1 : Int32).toInt ≤ 3 from by omega)
          have hfc : ∀ k, k ∉ ([60, 63] : List Nat) → (updA (updA c 63 (w : Int32).toNatClampNeg 1) 60 (w : Int32).toNatClampNeg s1) k = c k := fr_cz hfc (by decide) (by decide)
          refine lv_aload_n hx hb dX12_line_52 rfl (lv_at hl 0 rfl) ?_
          refine mget_61 hx hb hts (fun _ h => List.mem_cons_of_mem _ (List.mem_append_right _ h)) hown hK hP (hts (.fieldLink RX12 129 "TalePlayModel" "lineMany" "[I") (List.mem_cons_of_mem _ (List.mem_append_left _ (List.mem_append_left _ (List.mem_of_getElem? (i := 12) rfl))))) dX12_line_53 ?_
          refine lv_iload_n hx hb dX12_line_56 rfl (lv_at hl 1 rfl) ?_
          refine lv_iload_n hx hb dX12_line_57 rfl (lv_at hl 3 rfl) ?_
          refine mst_61 hx hb hK hP hD hS (vp_in_iff.mpr (by have h9 : w.toInt = w.toInt := rfl; omega)) dX12_line_58 (fun H locs hP hD hS => ?_)
          have hI := mInv_c hI (k := 61) (j := (w : Int32).toNatClampNeg) (x := n1) (show 0 ≤ (n1 : Int32).toInt ∧ (n1 : Int32).toInt ≤ 12 from by omega)
          have hfc : ∀ k, k ∉ ([60, 61, 63] : List Nat) → (updA (updA (updA c 63 (w : Int32).toNatClampNeg 1) 60 (w : Int32).toNatClampNeg s1) 61 (w : Int32).toNatClampNeg n1) k = c k := fr_cz hfc (by decide) (by decide)
          refine lv_iconst (v := 0) hx hb dX12_line_59 (by decide) ?_
          refine lv_istore (lv' := [(4, .int 0), (0, .ref o), (1, .int w), (2, .int s1), (3, .int n1)]) hx hb dX12_line_60 hl (by decide) rfl (fun ls hl => ?_)
          have lp7 : ∀ (fu : Nat) (i7 : Nat → Int32) (q7 : Int64) (c7 : Nat → Nat → Int32) (d7 : Nat → Nat → Int64) (y7_4 : Int32), mInv i7 c7 → (∀ k, k ∉ ([] : List Nat) → i7 k = i k) → (∀ k, k ∉ ([60, 61, 63] : List Nat) → c7 k = c k) → (0 ≤ y7_4.toInt ∧ y7_4.toInt ≤ 12) → ((c7 63) = upd (c 63) w.toNatClampNeg 1) → ((c7 60) = upd (c 60) w.toNatClampNeg s1) → ((c7 61) = upd (c 61) w.toNatClampNeg n1) → (12 - y7_4.toInt).toNat < fu → ∀ (H : Heap) (locs : List Loc) (ls : Array Slot), va_P D vwCl (mW o a t i7 q7 c7 d7) H → va_D A (mW o a t i7 q7 c7 d7) → va_S A s.heap H locs → lv_has ls 5 [(4, .int y7_4), (0, .ref o), (1, .int w), (2, .int s1), (3, .int n1)] → W p l e (headSpec wm_X12_line ({ frames := 2, cells := 0, slots := 0, locals := 46 })).room s m ([.ref o, .int w, .int s1, .int n1] : List Value).toArray below meth cd H locs 0 0 (MQ below (va_Qi (fun (r : Int32) (u : MS) => True ∧ mInv u.1 u.2.2.1 ∧ (∀ k, k ∉ ([0] : List Nat) → u.1 k = i k) ∧ (∀ k, k ∉ ([1, 60, 61, 63] : List Nat) → u.2.2.1 k = c k) ∧ ((¬ (0 ≤ w.toInt ∧ w.toInt < (i 5).toInt ∧ 0 ≤ s1.toInt ∧ s1.toInt ≤ 3 ∧ n1.toInt ≤ 12) ∧ r.toInt = -1) ∨ (0 ≤ w.toInt ∧ w.toInt < (i 5).toInt ∧ 0 ≤ s1.toInt ∧ s1.toInt ≤ 3 ∧ n1.toInt ≤ 12 ∧ n1.toInt < 0 ∧ r.toInt = -3) ∨ (0 ≤ w.toInt ∧ w.toInt < (i 5).toInt ∧ 0 ≤ s1.toInt ∧ s1.toInt ≤ 3 ∧ n1.toInt ≤ 12 ∧ 0 ≤ n1.toInt ∧ r.toInt = n1.toInt)) ∧ (LV (c 63) (c 60) (c 61) (u.2.2.1 63) (u.2.2.1 60) (u.2.2.1 61) w s1 n1 (i 5).toInt)) (oC D A (fun u : MS => mW o a t u.1 u.2.1 u.2.2.1 u.2.2.2) (fun _ => [])) A) ([.ref o, .int w, .int s1, .int n1] : List Value).toArray s 0 0 A) (F0 m 62 ls []) := by
            intro fu
            induction fu with
            | zero => intro i7 q7 c7 d7 y7_4 hI hfi hfc hy7_4 hz7_0 hz7_1 hz7_2 hm; exact absurd hm (Nat.not_lt_zero _)
            | succ fu ih =>
              intro i7 q7 c7 d7 y7_4 hI hfi hfc hy7_4 hz7_0 hz7_1 hz7_2 hm H locs ls hP hD hS hl
              have ih7 := ih
              refine lv_iload hx hb dX12_line_62 (lv_at hl 0 rfl) ?_
              refine lv_bipush (v := 12) hx hb dX12_line_64 (by decide) ?_
              refine lv_icmp_ge (tgt := 88) hx hb dX12_line_66 (by decide) (fun c8 => ?_) (fun c8 => ?_)
              · have f8 := (ti_le (a := 12) (b := y7_4.toInt) (by decide) rfl).mp c8
                refine lv_iload_n hx hb dX12_line_88 rfl (lv_at hl 4 rfl) ?_
                exact rw_iret (i7, q7, c7, d7) hx hb hr hlocks hS (hK.sub (tys' := []) [] rfl) hP hD dX12_line_89 ⟨trivial, hI, fr_w hfi (by decide), fr_w hfc (by decide), (show (¬ (0 ≤ w.toInt ∧ w.toInt < (i 5).toInt ∧ 0 ≤ s1.toInt ∧ s1.toInt ≤ 3 ∧ n1.toInt ≤ 12) ∧ (n1 : Int32).toInt = -1) ∨ (0 ≤ w.toInt ∧ w.toInt < (i 5).toInt ∧ 0 ≤ s1.toInt ∧ s1.toInt ≤ 3 ∧ n1.toInt ≤ 12 ∧ n1.toInt < 0 ∧ (n1 : Int32).toInt = -3) ∨ (0 ≤ w.toInt ∧ w.toInt < (i 5).toInt ∧ 0 ≤ s1.toInt ∧ s1.toInt ≤ 3 ∧ n1.toInt ≤ 12 ∧ 0 ≤ n1.toInt ∧ (n1 : Int32).toInt = n1.toInt) from by omega), (show LV (c 63) (c 60) (c 61) (c7 63) (c7 60) (c7 61) w s1 n1 (i 5).toInt from Or.inr ⟨by unfold LB; omega, hz7_0, hz7_1, hz7_2⟩)⟩
              · have f8 := mt (ti_le (a := 12) (b := y7_4.toInt) (by decide) rfl).mpr c8
                refine lv_aload_n hx hb dX12_line_69 rfl (lv_at hl 1 rfl) ?_
                refine mget_62 hx hb hts (fun _ h => List.mem_cons_of_mem _ (List.mem_append_right _ h)) hown hK hP (hts (.fieldLink RX12 132 "TalePlayModel" "items" "[J") (List.mem_cons_of_mem _ (List.mem_append_left _ (List.mem_append_left _ (List.mem_of_getElem? (i := 13) rfl))))) dX12_line_70 ?_
                refine lv_bipush (v := 12) hx hb dX12_line_73 (by decide) ?_
                refine lv_iload_n hx hb dX12_line_75 rfl (lv_at hl 2 rfl) ?_
                refine lv_imul hx hb dX12_line_76 ?_
                refine lv_topi (fun x9 ex9 => ?_)
                have tx9 := ti_mul (a := 12) (b := w.toInt) ex9 (by decide) rfl (by omega) (by omega)
                refine lv_iload hx hb dX12_line_77 (lv_at hl 0 rfl) ?_
                refine lv_iadd hx hb dX12_line_79 ?_
                refine lv_topi (fun x10 ex10 => ?_)
                have tx10 := ti_add (a := (12 * w.toInt)) (b := y7_4.toInt) ex10 tx9 rfl (by omega) (by omega)
                refine lv_lconst (v := 0) hx hb dX12_line_80 (by decide) ?_
                refine mst_62 hx hb hK hP hD hS (vp_in_iff.mpr (by have h9 : x10.toInt = ((12 * w.toInt) + y7_4.toInt) := tx10; omega)) dX12_line_81 (fun H locs hP hD hS => ?_)
                obtain ⟨x11, ex11⟩ : ∃ y : Int32, y = y7_4 + 1 := ⟨_, rfl⟩
                have tx11 := ti_add (a := y7_4.toInt) (b := 1) ex11 rfl (by decide) (by omega) (by omega)
                refine lv_iinc (v := x11) (lv' := [(4, .int x11), (0, .ref o), (1, .int w), (2, .int s1), (3, .int n1)]) hx hb dX12_line_82 hl (k := 0) rfl (by rw [ex11]; rfl) (by decide) rfl (fun ls hl => ?_)
                refine lv_goto (tgt := 62) hx hb dX12_line_85 (by decide) ?_
                exact ih7 i7 q7 c7 (updD d7 62 (x10 : Int32).toNatClampNeg 0) x11 hI (fr_w hfi (by decide)) (fr_w hfc (by decide)) (show 0 ≤ x11.toInt ∧ x11.toInt ≤ 12 from by have h50 : x11.toInt = (y7_4.toInt + 1) := tx11; omega) (show (c7 63) = upd (c 63) w.toNatClampNeg 1 from hz7_0) (show (c7 60) = upd (c 60) w.toNatClampNeg s1 from hz7_1) (show (c7 61) = upd (c 61) w.toNatClampNeg n1 from hz7_2) (by have h50 : x11.toInt = (y7_4.toInt + 1) := tx11; omega) _ _ _ hP hD hS (lv_sub hl [0, 1, 2, 3, 4] rfl)
          exact lp7 _ i q (updA (updA (updA c 63 (w : Int32).toNatClampNeg 1) 60 (w : Int32).toNatClampNeg s1) 61 (w : Int32).toNatClampNeg n1) d (0 : Int32) hI (fr_w hfi (by decide)) (fr_w hfc (by decide)) (show 0 ≤ (0 : Int32).toInt ∧ (0 : Int32).toInt ≤ 12 from by have h50 : (0 : Int32).toInt = 0 := (by decide); omega) (show ((updA (updA (updA c 63 (w : Int32).toNatClampNeg 1) 60 (w : Int32).toNatClampNeg s1) 61 (w : Int32).toNatClampNeg n1) 63) = upd (c 63) w.toNatClampNeg 1 from rfl) (show ((updA (updA (updA c 63 (w : Int32).toNatClampNeg 1) 60 (w : Int32).toNatClampNeg s1) 61 (w : Int32).toNatClampNeg n1) 60) = upd (c 60) w.toNatClampNeg s1 from rfl) (show ((updA (updA (updA c 63 (w : Int32).toNatClampNeg 1) 60 (w : Int32).toNatClampNeg s1) 61 (w : Int32).toNatClampNeg n1) 61) = upd (c 61) w.toNatClampNeg n1 from rfl) (Nat.lt_succ_self _) _ _ _ hP hD hS (lv_sub hl [0, 1, 2, 3, 4] rfl)
        · have f6 := mt (ti_le (a := 0) (b := n1.toInt) (by decide) rfl).mpr c6
          refine lv_aload_n hx hb dX12_line_32 rfl (lv_at hl 0 rfl) ?_
          refine lv_iconst (v := 5) hx hb dX12_line_33 (by decide) ?_
          refine al_calli (va_runV (As := [.int 5]) (rest := []) ⟨hx, hb, hml, hown, hts⟩ (s_X12_meets l D H.size o a t i q c d 5 hI (show 1 ≤ 5 ∧ 5 ≤ 6 from by have h90 : (5 : Int32).toInt = 5 := (by decide); omega)) (cwV 1 hts gm_X12_line_X12_meets rfl rfl rfl (by decide +kernel) ⟨Nat.le_of_ble_eq_true rfl, Nat.le_of_ble_eq_true rfl⟩) (pB_V hK hP hD (ci := 12) (q0 := 0) rfl rfl) rfl rfl hl.1 rfl (lv_room (Nat.le_of_ble_eq_true rfl)) dX12_line_34 ⟨Nat.le_of_ble_eq_true rfl, Nat.le_of_ble_eq_true rfl⟩) hS hA hP hD (fun r12 u12 H locs hw12 hP hD hS => ?_)
          obtain ⟨i12, q12, c12, d12⟩ := u12
          have hw12 : r12 = (-3) ∧ mInv i12 c12 ∧ (∀ k, k ∉ ([0] : List Nat) → i12 k = i k) ∧ (∀ k, k ∉ ([1] : List Nat) → c12 k = c k) := hw12
          obtain ⟨hw12, hI, hei12, hec12⟩ := hw12
          have hfi : ∀ k, k ∉ ([0] : List Nat) → i12 k = i k := fr_z hfi hei12 (by decide) (by decide)
          have hfc : ∀ k, k ∉ ([1] : List Nat) → c12 k = c k := fr_z hfc hec12 (by decide) (by decide)
          have hP : va_P D vwCl (mW o a t i12 q12 c12 d12) H := hP
          have hD : va_D A (mW o a t i12 q12 c12 d12) := hD
          have hw12 : r12 = (-3) := hw12
          subst hw12
          exact rw_iret (i12, q12, c12, d12) hx hb hr hlocks hS (hK.sub (tys' := []) [] rfl) hP hD dX12_line_37 ⟨trivial, hI, fr_w hfi (by decide), fr_w hfc (by decide), (show (¬ (0 ≤ w.toInt ∧ w.toInt < (i 5).toInt ∧ 0 ≤ s1.toInt ∧ s1.toInt ≤ 3 ∧ n1.toInt ≤ 12) ∧ ((-3) : Int32).toInt = -1) ∨ (0 ≤ w.toInt ∧ w.toInt < (i 5).toInt ∧ 0 ≤ s1.toInt ∧ s1.toInt ≤ 3 ∧ n1.toInt ≤ 12 ∧ n1.toInt < 0 ∧ ((-3) : Int32).toInt = -3) ∨ (0 ≤ w.toInt ∧ w.toInt < (i 5).toInt ∧ 0 ≤ s1.toInt ∧ s1.toInt ≤ 3 ∧ n1.toInt ≤ 12 ∧ 0 ≤ n1.toInt ∧ ((-3) : Int32).toInt = n1.toInt) from by have h50 : ((-3) : Int32).toInt = -3 := (by decide); omega), (show LV (c 63) (c 60) (c 61) (c12 63) (c12 60) (c12 61) w s1 n1 (i 5).toInt from Or.inl ⟨by unfold LB; omega, hfc 63 (by decide), hfc 60 (by decide), hfc 61 (by decide)⟩)⟩
      · have f5 := mt (ti_le (a := n1.toInt) (b := 12) rfl (by decide)).mpr c5
        refine lv_iconst (v := (-1)) hx hb dX12_line_26 (by decide) ?_
        exact rw_iret (i, q, c, d) hx hb hr hlocks hS (hK.sub (tys' := []) [] rfl) hP hD dX12_line_27 ⟨trivial, hI, fr_w hfi (by decide), fr_w hfc (by decide), (show (¬ (0 ≤ w.toInt ∧ w.toInt < (i 5).toInt ∧ 0 ≤ s1.toInt ∧ s1.toInt ≤ 3 ∧ n1.toInt ≤ 12) ∧ ((-1) : Int32).toInt = -1) ∨ (0 ≤ w.toInt ∧ w.toInt < (i 5).toInt ∧ 0 ≤ s1.toInt ∧ s1.toInt ≤ 3 ∧ n1.toInt ≤ 12 ∧ n1.toInt < 0 ∧ ((-1) : Int32).toInt = -3) ∨ (0 ≤ w.toInt ∧ w.toInt < (i 5).toInt ∧ 0 ≤ s1.toInt ∧ s1.toInt ≤ 3 ∧ n1.toInt ≤ 12 ∧ 0 ≤ n1.toInt ∧ ((-1) : Int32).toInt = n1.toInt) from by have h50 : ((-1) : Int32).toInt = -1 := (by decide); omega), (show LV (c 63) (c 60) (c 61) (c 63) (c 60) (c 61) w s1 n1 (i 5).toInt from Or.inl ⟨by unfold LB; omega, rfl, rfl, rfl⟩)⟩

def wm_X4_isOther_e : List Cond := .code yX4_isOther cX4_isOther 3 (some .boolean) :: (([.fieldLink RX4 9 "TalePlay$Lines" "sorts" "[I"] : List Cond) ++ wsX40)
set_option maxHeartbeats 4000000 in
set_option maxRecDepth 100000 in
theorem x_X4_isOther_e (l : Launch) (D : va_G) (sz : Nat) (sk : Value) (a : Nat → Nat) (t : Nat → ClassId) (i : Nat → Int32) (q : Int64) (c : Nat → Nat → Int32) (d : Nat → Nat → Int64) (w : Int32) (s1 : Int32) (hI : xInv i c) (hw : 0 ≤ w.toInt ∧ w.toInt ≤ 29) : Met l yX4_isOther wm_X4_isOther_e ({ frames := 0, cells := 0, slots := 0, locals := 0 }) (va_Pc [.ref (a 157), .int w, .int s1] (yA (a 186) D sz (xwT sk a t i q c d) (xtT t))) (va_Qi (fun (r : Int32) (_ : Unit) => ((r.toInt = 1 ∧ ¬ (c 158 w.toNatClampNeg).toInt = -9 ∧ ¬ (c 158 w.toNatClampNeg).toInt = s1.toInt) ∨ (r.toInt = 0 ∧ ((c 158 w.toNatClampNeg).toInt = -9 ∨ (c 158 w.toNatClampNeg).toInt = s1.toInt)))) oA (ro sz)) 0 0 (ro sz) := by
  refine Met.ofW (cc := cX4_isOther) (maxL := 3) (ret := (some .boolean)) (by decide) rfl ?_
  intro p e s m args below meth cd s₁ B hml hv
  obtain ⟨rfl, ⟨hsz, hP, hK⟩, hN, hZ⟩ := hv
  have hx := B.exec
  have hb := B.bytes
  have hr := B.returns
  have hts := atoms_spec (ws := wm_X4_isOther_e) B.pre
  have hown : s.vm.findClass RX4 = some m.cls := findClass_of_methodNamed B.named
  have hlocks := B.notSynchronized
  subst hsz
  have hA : ∀ q : Nat, s.heap.size ≤ q → ro s.heap.size q := fun _ h => h
  have hS : va_S (ro s.heap.size) s.heap s.heap [] := va_S.rf
  have hl := lv_entry ([.ref (a 157), .int w, .int s1]) (n := 3) (Nat.le_of_ble_eq_true rfl)
  rw [lg_entry_eq]
  generalize (lg_sl ([.ref (a 157), .int w, .int s1]) ++ List.replicate (3 - (lg_sl ([.ref (a 157), .int w, .int s1])).length) Slot.unset).toArray = ls at hl ⊢
  have hl : lv_has ls 3 [(0, .ref (a 157)), (1, .int w), (2, .int s1)] := hl
  refine lv_aload_n hx hb dX4_isOther_0 rfl (lv_at hl 0 rfl) ?_
  refine xgT_L_sorts hx hb hts (fun _ h => List.mem_cons_of_mem _ (List.mem_append_right _ h)) hown hK hP (hts (.fieldLink RX4 9 "TalePlay$Lines" "sorts" "[I") (List.mem_cons_of_mem _ (List.mem_append_left _ (List.mem_of_getElem? (i := 0) rfl)))) dX4_isOther_1 ?_
  refine lv_iload_n hx hb dX4_isOther_4 rfl (lv_at hl 1 rfl) ?_
  refine xlT_158 hx hb hK hP (vp_in_iff.mpr (by have h9 : w.toInt = w.toInt := rfl; omega)) dX4_isOther_5 (fun x1 ex1 => ?_)
  have rx1 : x1.toInt = -9 ∨ (0 ≤ x1.toInt ∧ x1.toInt ≤ 3) := by rw [ex1]; exact hI.2 158 _
  have gx1 : (c 158 (w : Int32).toNatClampNeg).toInt = x1.toInt := (congrArg Int32.toInt ex1).symm
  refine lv_bipush (v := (-9)) hx hb dX4_isOther_6 (by decide) ?_
  refine lv_icmp_eq (tgt := 25) hx hb dX4_isOther_8 (by decide) (fun c2 => ?_) (fun c2 => ?_)
  · have f2 := (ti_eq (a := x1.toInt) (b := (-9)) rfl (by decide)).mp c2
    refine lv_iconst (v := 0) hx hb dX4_isOther_25 (by decide) ?_
    exact ro_zret hx hb hr hlocks hS rfl dX4_isOther_26 (show ((0 : Int32).toInt = 1 ∧ ¬ (c 158 w.toNatClampNeg).toInt = -9 ∧ ¬ (c 158 w.toNatClampNeg).toInt = s1.toInt) ∨ ((0 : Int32).toInt = 0 ∧ ((c 158 w.toNatClampNeg).toInt = -9 ∨ (c 158 w.toNatClampNeg).toInt = s1.toInt)) from by have h9 : (0 : Int32).toInt = 0 := (by decide); omega)
  · have f2 := mt (ti_eq (a := x1.toInt) (b := (-9)) rfl (by decide)).mpr c2
    refine lv_aload_n hx hb dX4_isOther_11 rfl (lv_at hl 0 rfl) ?_
    refine xgT_L_sorts hx hb hts (fun _ h => List.mem_cons_of_mem _ (List.mem_append_right _ h)) hown hK hP (hts (.fieldLink RX4 9 "TalePlay$Lines" "sorts" "[I") (List.mem_cons_of_mem _ (List.mem_append_left _ (List.mem_of_getElem? (i := 0) rfl)))) dX4_isOther_12 ?_
    refine lv_iload_n hx hb dX4_isOther_15 rfl (lv_at hl 1 rfl) ?_
    refine xlT_158 hx hb hK hP (vp_in_iff.mpr (by have h9 : w.toInt = w.toInt := rfl; omega)) dX4_isOther_16 (fun x3 ex3 => ?_)
    have rx3 : x3.toInt = -9 ∨ (0 ≤ x3.toInt ∧ x3.toInt ≤ 3) := by rw [ex3]; exact hI.2 158 _
    have gx3 : (c 158 (w : Int32).toNatClampNeg).toInt = x3.toInt := (congrArg Int32.toInt ex3).symm
    refine lv_iload_n hx hb dX4_isOther_17 rfl (lv_at hl 2 rfl) ?_
    refine lv_icmp_eq (tgt := 25) hx hb dX4_isOther_18 (by decide) (fun c4 => ?_) (fun c4 => ?_)
    · have f4 := (ti_eq (a := x3.toInt) (b := s1.toInt) rfl rfl).mp c4
      refine lv_iconst (v := 0) hx hb dX4_isOther_25 (by decide) ?_
      exact ro_zret hx hb hr hlocks hS rfl dX4_isOther_26 (show ((0 : Int32).toInt = 1 ∧ ¬ (c 158 w.toNatClampNeg).toInt = -9 ∧ ¬ (c 158 w.toNatClampNeg).toInt = s1.toInt) ∨ ((0 : Int32).toInt = 0 ∧ ((c 158 w.toNatClampNeg).toInt = -9 ∨ (c 158 w.toNatClampNeg).toInt = s1.toInt)) from by have h9 : (0 : Int32).toInt = 0 := (by decide); omega)
    · have f4 := mt (ti_eq (a := x3.toInt) (b := s1.toInt) rfl rfl).mpr c4
      refine lv_iconst (v := 1) hx hb dX4_isOther_21 (by decide) ?_
      refine lv_goto (tgt := 26) hx hb dX4_isOther_22 (by decide) ?_
      exact ro_zret hx hb hr hlocks hS rfl dX4_isOther_26 (show ((1 : Int32).toInt = 1 ∧ ¬ (c 158 w.toNatClampNeg).toInt = -9 ∧ ¬ (c 158 w.toNatClampNeg).toInt = s1.toInt) ∨ ((1 : Int32).toInt = 0 ∧ ((c 158 w.toNatClampNeg).toInt = -9 ∨ (c 158 w.toNatClampNeg).toInt = s1.toInt)) from by have h9 : (1 : Int32).toInt = 1 := (by decide); omega)

def wm_X4_hasRun_e : List Cond := .code yX4_hasRun cX4_hasRun 4 (some .boolean) :: (([.fieldLink RX4 15 "TalePlay$Lines" "lengths" "[I"] : List Cond) ++ wsX40)
set_option maxHeartbeats 4000000 in
set_option maxRecDepth 100000 in
theorem x_X4_hasRun_e (l : Launch) (D : va_G) (sz : Nat) (sk : Value) (a : Nat → Nat) (t : Nat → ClassId) (i : Nat → Int32) (q : Int64) (c : Nat → Nat → Int32) (d : Nat → Nat → Int64) (w : Int32) (f : Int32) (n1 : Int32) (hI : xInv i c) (hw : 0 ≤ w.toInt ∧ w.toInt ≤ 29) : Met l yX4_hasRun wm_X4_hasRun_e ({ frames := 0, cells := 0, slots := 0, locals := 0 }) (va_Pc [.ref (a 157), .int w, .int f, .int n1] (yA (a 186) D sz (xwT sk a t i q c d) (xtT t))) (va_Qi (fun (r : Int32) (_ : Unit) => ((r.toInt = 1 ∧ 0 ≤ f.toInt ∧ 0 ≤ n1.toInt ∧ f.toInt + n1.toInt ≤ (c 159 w.toNatClampNeg).toInt ∧ (c 159 w.toNatClampNeg).toInt ≤ 12) ∨ (r.toInt = 0 ∧ ¬ (0 ≤ f.toInt ∧ 0 ≤ n1.toInt ∧ f.toInt + n1.toInt ≤ (c 159 w.toNatClampNeg).toInt)))) oA (ro sz)) 0 0 (ro sz) := by
  refine Met.ofW (cc := cX4_hasRun) (maxL := 4) (ret := (some .boolean)) (by decide) rfl ?_
  intro p e s m args below meth cd s₁ B hml hv
  obtain ⟨rfl, ⟨hsz, hP, hK⟩, hN, hZ⟩ := hv
  have hx := B.exec
  have hb := B.bytes
  have hr := B.returns
  have hts := atoms_spec (ws := wm_X4_hasRun_e) B.pre
  have hown : s.vm.findClass RX4 = some m.cls := findClass_of_methodNamed B.named
  have hlocks := B.notSynchronized
  subst hsz
  have hA : ∀ q : Nat, s.heap.size ≤ q → ro s.heap.size q := fun _ h => h
  have hS : va_S (ro s.heap.size) s.heap s.heap [] := va_S.rf
  have hl := lv_entry ([.ref (a 157), .int w, .int f, .int n1]) (n := 4) (Nat.le_of_ble_eq_true rfl)
  rw [lg_entry_eq]
  generalize (lg_sl ([.ref (a 157), .int w, .int f, .int n1]) ++ List.replicate (4 - (lg_sl ([.ref (a 157), .int w, .int f, .int n1])).length) Slot.unset).toArray = ls at hl ⊢
  have hl : lv_has ls 4 [(0, .ref (a 157)), (1, .int w), (2, .int f), (3, .int n1)] := hl
  refine lv_iload_n hx hb dX4_hasRun_0 rfl (lv_at hl 2 rfl) ?_
  refine lv_if_lt (tgt := 34) hx hb dX4_hasRun_1 (by decide) (fun c1 => ?_) (fun c1 => ?_)
  · have f1 := (ti_lt (a := f.toInt) (b := 0) rfl (by decide)).mp c1
    refine lv_iconst (v := 0) hx hb dX4_hasRun_34 (by decide) ?_
    exact ro_zret hx hb hr hlocks hS rfl dX4_hasRun_35 (show ((0 : Int32).toInt = 1 ∧ 0 ≤ f.toInt ∧ 0 ≤ n1.toInt ∧ f.toInt + n1.toInt ≤ (c 159 w.toNatClampNeg).toInt ∧ (c 159 w.toNatClampNeg).toInt ≤ 12) ∨ ((0 : Int32).toInt = 0 ∧ ¬ (0 ≤ f.toInt ∧ 0 ≤ n1.toInt ∧ f.toInt + n1.toInt ≤ (c 159 w.toNatClampNeg).toInt)) from by have h9 : (0 : Int32).toInt = 0 := (by decide); omega)
  · have f1 := mt (ti_lt (a := f.toInt) (b := 0) rfl (by decide)).mpr c1
    refine lv_iload_n hx hb dX4_hasRun_4 rfl (lv_at hl 3 rfl) ?_
    refine lv_if_lt (tgt := 34) hx hb dX4_hasRun_5 (by decide) (fun c2 => ?_) (fun c2 => ?_)
    · have f2 := (ti_lt (a := n1.toInt) (b := 0) rfl (by decide)).mp c2
      refine lv_iconst (v := 0) hx hb dX4_hasRun_34 (by decide) ?_
      exact ro_zret hx hb hr hlocks hS rfl dX4_hasRun_35 (show ((0 : Int32).toInt = 1 ∧ 0 ≤ f.toInt ∧ 0 ≤ n1.toInt ∧ f.toInt + n1.toInt ≤ (c 159 w.toNatClampNeg).toInt ∧ (c 159 w.toNatClampNeg).toInt ≤ 12) ∨ ((0 : Int32).toInt = 0 ∧ ¬ (0 ≤ f.toInt ∧ 0 ≤ n1.toInt ∧ f.toInt + n1.toInt ≤ (c 159 w.toNatClampNeg).toInt)) from by have h9 : (0 : Int32).toInt = 0 := (by decide); omega)
    · have f2 := mt (ti_lt (a := n1.toInt) (b := 0) rfl (by decide)).mpr c2
      refine lv_iload_n hx hb dX4_hasRun_8 rfl (lv_at hl 2 rfl) ?_
      refine lv_aload_n hx hb dX4_hasRun_9 rfl (lv_at hl 0 rfl) ?_
      refine xgT_L_lengths hx hb hts (fun _ h => List.mem_cons_of_mem _ (List.mem_append_right _ h)) hown hK hP (hts (.fieldLink RX4 15 "TalePlay$Lines" "lengths" "[I") (List.mem_cons_of_mem _ (List.mem_append_left _ (List.mem_of_getElem? (i := 0) rfl)))) dX4_hasRun_10 ?_
      refine lv_iload_n hx hb dX4_hasRun_13 rfl (lv_at hl 1 rfl) ?_
      refine xlT_159 hx hb hK hP (vp_in_iff.mpr (by have h9 : w.toInt = w.toInt := rfl; omega)) dX4_hasRun_14 (fun x3 ex3 => ?_)
      have rx3 : 0 ≤ x3.toInt ∧ x3.toInt ≤ 12 := by rw [ex3]; exact hI.2 159 _
      have gx3 : (c 159 (w : Int32).toNatClampNeg).toInt = x3.toInt := (congrArg Int32.toInt ex3).symm
      refine lv_icmp_gt (tgt := 34) hx hb dX4_hasRun_15 (by decide) (fun c4 => ?_) (fun c4 => ?_)
      · have f4 := (ti_lt (a := x3.toInt) (b := f.toInt) rfl rfl).mp c4
        refine lv_iconst (v := 0) hx hb dX4_hasRun_34 (by decide) ?_
        exact ro_zret hx hb hr hlocks hS rfl dX4_hasRun_35 (show ((0 : Int32).toInt = 1 ∧ 0 ≤ f.toInt ∧ 0 ≤ n1.toInt ∧ f.toInt + n1.toInt ≤ (c 159 w.toNatClampNeg).toInt ∧ (c 159 w.toNatClampNeg).toInt ≤ 12) ∨ ((0 : Int32).toInt = 0 ∧ ¬ (0 ≤ f.toInt ∧ 0 ≤ n1.toInt ∧ f.toInt + n1.toInt ≤ (c 159 w.toNatClampNeg).toInt)) from by have h9 : (0 : Int32).toInt = 0 := (by decide); omega)
      · have f4 := mt (ti_lt (a := x3.toInt) (b := f.toInt) rfl rfl).mpr c4
        refine lv_iload_n hx hb dX4_hasRun_18 rfl (lv_at hl 3 rfl) ?_
        refine lv_aload_n hx hb dX4_hasRun_19 rfl (lv_at hl 0 rfl) ?_
        refine xgT_L_lengths hx hb hts (fun _ h => List.mem_cons_of_mem _ (List.mem_append_right _ h)) hown hK hP (hts (.fieldLink RX4 15 "TalePlay$Lines" "lengths" "[I") (List.mem_cons_of_mem _ (List.mem_append_left _ (List.mem_of_getElem? (i := 0) rfl)))) dX4_hasRun_20 ?_
        refine lv_iload_n hx hb dX4_hasRun_23 rfl (lv_at hl 1 rfl) ?_
        refine xlT_159 hx hb hK hP (vp_in_iff.mpr (by have h9 : w.toInt = w.toInt := rfl; omega)) dX4_hasRun_24 (fun x5 ex5 => ?_)
        have rx5 : 0 ≤ x5.toInt ∧ x5.toInt ≤ 12 := by rw [ex5]; exact hI.2 159 _
        have gx5 : (c 159 (w : Int32).toNatClampNeg).toInt = x5.toInt := (congrArg Int32.toInt ex5).symm
        refine lv_iload_n hx hb dX4_hasRun_25 rfl (lv_at hl 2 rfl) ?_
        refine lv_isub hx hb dX4_hasRun_26 ?_
        refine lv_topi (fun x6 ex6 => ?_)
        have tx6 := ti_sub (a := x5.toInt) (b := f.toInt) ex6 rfl rfl (by omega) (by omega)
        refine lv_icmp_gt (tgt := 34) hx hb dX4_hasRun_27 (by decide) (fun c7 => ?_) (fun c7 => ?_)
        · have f7 := (ti_lt (a := (x5.toInt - f.toInt)) (b := n1.toInt) tx6 rfl).mp c7
          refine lv_iconst (v := 0) hx hb dX4_hasRun_34 (by decide) ?_
          exact ro_zret hx hb hr hlocks hS rfl dX4_hasRun_35 (show ((0 : Int32).toInt = 1 ∧ 0 ≤ f.toInt ∧ 0 ≤ n1.toInt ∧ f.toInt + n1.toInt ≤ (c 159 w.toNatClampNeg).toInt ∧ (c 159 w.toNatClampNeg).toInt ≤ 12) ∨ ((0 : Int32).toInt = 0 ∧ ¬ (0 ≤ f.toInt ∧ 0 ≤ n1.toInt ∧ f.toInt + n1.toInt ≤ (c 159 w.toNatClampNeg).toInt)) from by have h9 : (0 : Int32).toInt = 0 := (by decide); omega)
        · have f7 := mt (ti_lt (a := (x5.toInt - f.toInt)) (b := n1.toInt) tx6 rfl).mpr c7
          refine lv_iconst (v := 1) hx hb dX4_hasRun_30 (by decide) ?_
          refine lv_goto (tgt := 35) hx hb dX4_hasRun_31 (by decide) ?_
          exact ro_zret hx hb hr hlocks hS rfl dX4_hasRun_35 (show ((1 : Int32).toInt = 1 ∧ 0 ≤ f.toInt ∧ 0 ≤ n1.toInt ∧ f.toInt + n1.toInt ≤ (c 159 w.toNatClampNeg).toInt ∧ (c 159 w.toNatClampNeg).toInt ≤ 12) ∨ ((1 : Int32).toInt = 0 ∧ ¬ (0 ≤ f.toInt ∧ 0 ≤ n1.toInt ∧ f.toInt + n1.toInt ≤ (c 159 w.toNatClampNeg).toInt)) from by have h9 : (1 : Int32).toInt = 1 := (by decide); omega)

def wm_X11_copy_e : List Cond := .code yX11_copy cX11_copy 7 (some .int) :: ((([.fieldLink RX11 10 "TalePlay" "world" "LTalePlay$World;", .methodLink RX11 109 yX10_hasObject, .instanceMethod yX10_hasObject, .selects RX10 yX10_hasObject yX10_hasObject, .initialized RX10, .code yX10_hasObject cX10_hasObject 2 (some .boolean), .fieldLink RX10 37 "TalePlay$World" "objects" "I", .methodLink RX11 91 yX11_isBelow, .static yX11_isBelow, .initialized RX11, .code yX11_isBelow cX11_isBelow 2 (some .boolean), .fieldLink RX11 53 "TalePlay" "lines" "LTalePlay$Lines;", .methodLink RX11 319 yX4_isOther, .instanceMethod yX4_isOther, .selects RX4 yX4_isOther yX4_isOther, .initialized RX4] : List Cond) ++ (([.code yX4_isOther cX4_isOther 3 (some .boolean), .fieldLink RX4 9 "TalePlay$Lines" "sorts" "[I", .methodLink RX11 128 yX11_answerFinding, .instanceMethod yX11_answerFinding, .selects RX11 yX11_answerFinding yX11_answerFinding, .code yX11_answerFinding cX11_answerFinding 2 (some .int), .fieldLink RX11 72 "TalePlay" "latestFinding" "I", .fieldLink RX11 68 "TalePlay" "findingCounts" "[I", .fieldLink RX11 322 "TalePlay$Lines" "sorts" "[I", .methodLink RX11 325 yX4_hasRun, .instanceMethod yX4_hasRun, .selects RX4 yX4_hasRun yX4_hasRun, .code yX4_hasRun cX4_hasRun 4 (some .boolean), .fieldLink RX4 15 "TalePlay$Lines" "lengths" "[I", .fieldLink RX11 311 "TalePlay$Lines" "items" "[J", .methodLink RX11 328 arraycopyName] : List Cond) ++ ([.native arraycopyName, .static arraycopyName, .initialized "java/lang/System"] : List Cond))) ++ wsX110 ++ wsX100 ++ wsX40)
set_option maxRecDepth 20000 in
theorem gm_X11_copy_e_X10_hasObject_109 : GoodIn wm_X11_copy_e (wsV RX11 109 RX10 yX10_hasObject wm_X10_hasObject) := goodIn_w (List.forall_mem_append.mpr ⟨List.forall_mem_cons.mpr ⟨List.mem_cons_of_mem _ (List.mem_append_left _ (List.mem_append_left _ (List.mem_append_left _ (List.mem_append_left _ (List.mem_of_getElem? (i := 1) rfl))))), List.forall_mem_cons.mpr ⟨List.mem_cons_of_mem _ (List.mem_append_left _ (List.mem_append_left _ (List.mem_append_left _ (List.mem_append_left _ (List.mem_of_getElem? (i := 2) rfl))))), List.forall_mem_cons.mpr ⟨List.mem_cons_of_mem _ (List.mem_append_left _ (List.mem_append_left _ (List.mem_append_left _ (List.mem_append_left _ (List.mem_of_getElem? (i := 3) rfl))))), List.forall_mem_cons.mpr ⟨List.mem_cons_of_mem _ (List.mem_append_left _ (List.mem_append_left _ (List.mem_append_left _ (List.mem_append_left _ (List.mem_of_getElem? (i := 4) rfl))))), (fun _ h => absurd h List.not_mem_nil)⟩⟩⟩⟩, List.forall_mem_cons.mpr ⟨List.mem_cons_of_mem _ (List.mem_append_left _ (List.mem_append_left _ (List.mem_append_left _ (List.mem_append_left _ (List.mem_of_getElem? (i := 5) rfl))))), List.forall_mem_append.mpr ⟨List.forall_mem_cons.mpr ⟨List.mem_cons_of_mem _ (List.mem_append_left _ (List.mem_append_left _ (List.mem_append_left _ (List.mem_append_left _ (List.mem_of_getElem? (i := 6) rfl))))), (fun _ h => absurd h List.not_mem_nil)⟩, (fun _ h => List.mem_cons_of_mem _ (List.mem_append_left _ (List.mem_append_right _ h)))⟩⟩⟩) (by decide +kernel)
set_option maxRecDepth 20000 in
theorem gm_X11_copy_e_X11_isBelow_91 : GoodIn wm_X11_copy_e (va_wsS RX11 91 yX11_isBelow wm_X11_isBelow) := goodIn_w (List.forall_mem_append.mpr ⟨List.forall_mem_cons.mpr ⟨List.mem_cons_of_mem _ (List.mem_append_left _ (List.mem_append_left _ (List.mem_append_left _ (List.mem_append_left _ (List.mem_of_getElem? (i := 7) rfl))))), List.forall_mem_cons.mpr ⟨List.mem_cons_of_mem _ (List.mem_append_left _ (List.mem_append_left _ (List.mem_append_left _ (List.mem_append_left _ (List.mem_of_getElem? (i := 8) rfl))))), List.forall_mem_cons.mpr ⟨List.mem_cons_of_mem _ (List.mem_append_left _ (List.mem_append_left _ (List.mem_append_left _ (List.mem_append_left _ (List.mem_of_getElem? (i := 9) rfl))))), (fun _ h => absurd h List.not_mem_nil)⟩⟩⟩, List.forall_mem_cons.mpr ⟨List.mem_cons_of_mem _ (List.mem_append_left _ (List.mem_append_left _ (List.mem_append_left _ (List.mem_append_left _ (List.mem_of_getElem? (i := 10) rfl))))), (fun _ h => absurd h List.not_mem_nil)⟩⟩) (by decide +kernel)
set_option maxRecDepth 20000 in
theorem gm_X11_copy_e_X4_isOther_e_319 : GoodIn wm_X11_copy_e (wsV RX11 319 RX4 yX4_isOther wm_X4_isOther_e) := goodIn_w (List.forall_mem_append.mpr ⟨List.forall_mem_cons.mpr ⟨List.mem_cons_of_mem _ (List.mem_append_left _ (List.mem_append_left _ (List.mem_append_left _ (List.mem_append_left _ (List.mem_of_getElem? (i := 12) rfl))))), List.forall_mem_cons.mpr ⟨List.mem_cons_of_mem _ (List.mem_append_left _ (List.mem_append_left _ (List.mem_append_left _ (List.mem_append_left _ (List.mem_of_getElem? (i := 13) rfl))))), List.forall_mem_cons.mpr ⟨List.mem_cons_of_mem _ (List.mem_append_left _ (List.mem_append_left _ (List.mem_append_left _ (List.mem_append_left _ (List.mem_of_getElem? (i := 14) rfl))))), List.forall_mem_cons.mpr ⟨List.mem_cons_of_mem _ (List.mem_append_left _ (List.mem_append_left _ (List.mem_append_left _ (List.mem_append_left _ (List.mem_of_getElem? (i := 15) rfl))))), (fun _ h => absurd h List.not_mem_nil)⟩⟩⟩⟩, List.forall_mem_cons.mpr ⟨List.mem_cons_of_mem _ (List.mem_append_left _ (List.mem_append_left _ (List.mem_append_left _ (List.mem_append_right _ (List.mem_append_left _ (List.mem_of_getElem? (i := 0) rfl)))))), List.forall_mem_append.mpr ⟨List.forall_mem_cons.mpr ⟨List.mem_cons_of_mem _ (List.mem_append_left _ (List.mem_append_left _ (List.mem_append_left _ (List.mem_append_right _ (List.mem_append_left _ (List.mem_of_getElem? (i := 1) rfl)))))), (fun _ h => absurd h List.not_mem_nil)⟩, (fun _ h => List.mem_cons_of_mem _ (List.mem_append_right _ h))⟩⟩⟩) (by decide +kernel)
set_option maxRecDepth 20000 in
theorem gm_X11_copy_e_X11_answerFinding_128 : GoodIn wm_X11_copy_e (wsV RX11 128 RX11 yX11_answerFinding wm_X11_answerFinding) := goodIn_w (List.forall_mem_append.mpr ⟨List.forall_mem_cons.mpr ⟨List.mem_cons_of_mem _ (List.mem_append_left _ (List.mem_append_left _ (List.mem_append_left _ (List.mem_append_right _ (List.mem_append_left _ (List.mem_of_getElem? (i := 2) rfl)))))), List.forall_mem_cons.mpr ⟨List.mem_cons_of_mem _ (List.mem_append_left _ (List.mem_append_left _ (List.mem_append_left _ (List.mem_append_right _ (List.mem_append_left _ (List.mem_of_getElem? (i := 3) rfl)))))), List.forall_mem_cons.mpr ⟨List.mem_cons_of_mem _ (List.mem_append_left _ (List.mem_append_left _ (List.mem_append_left _ (List.mem_append_right _ (List.mem_append_left _ (List.mem_of_getElem? (i := 4) rfl)))))), List.forall_mem_cons.mpr ⟨List.mem_cons_of_mem _ (List.mem_append_left _ (List.mem_append_left _ (List.mem_append_left _ (List.mem_append_left _ (List.mem_of_getElem? (i := 9) rfl))))), (fun _ h => absurd h List.not_mem_nil)⟩⟩⟩⟩, List.forall_mem_cons.mpr ⟨List.mem_cons_of_mem _ (List.mem_append_left _ (List.mem_append_left _ (List.mem_append_left _ (List.mem_append_right _ (List.mem_append_left _ (List.mem_of_getElem? (i := 5) rfl)))))), List.forall_mem_append.mpr ⟨List.forall_mem_cons.mpr ⟨List.mem_cons_of_mem _ (List.mem_append_left _ (List.mem_append_left _ (List.mem_append_left _ (List.mem_append_right _ (List.mem_append_left _ (List.mem_of_getElem? (i := 6) rfl)))))), List.forall_mem_cons.mpr ⟨List.mem_cons_of_mem _ (List.mem_append_left _ (List.mem_append_left _ (List.mem_append_left _ (List.mem_append_right _ (List.mem_append_left _ (List.mem_of_getElem? (i := 7) rfl)))))), (fun _ h => absurd h List.not_mem_nil)⟩⟩, (fun _ h => List.mem_cons_of_mem _ (List.mem_append_left _ (List.mem_append_left _ (List.mem_append_right _ h))))⟩⟩⟩) (by decide +kernel)
set_option maxRecDepth 20000 in
theorem gm_X11_copy_e_X4_hasRun_e_325 : GoodIn wm_X11_copy_e (wsV RX11 325 RX4 yX4_hasRun wm_X4_hasRun_e) := goodIn_w (List.forall_mem_append.mpr ⟨List.forall_mem_cons.mpr ⟨List.mem_cons_of_mem _ (List.mem_append_left _ (List.mem_append_left _ (List.mem_append_left _ (List.mem_append_right _ (List.mem_append_left _ (List.mem_of_getElem? (i := 9) rfl)))))), List.forall_mem_cons.mpr ⟨List.mem_cons_of_mem _ (List.mem_append_left _ (List.mem_append_left _ (List.mem_append_left _ (List.mem_append_right _ (List.mem_append_left _ (List.mem_of_getElem? (i := 10) rfl)))))), List.forall_mem_cons.mpr ⟨List.mem_cons_of_mem _ (List.mem_append_left _ (List.mem_append_left _ (List.mem_append_left _ (List.mem_append_right _ (List.mem_append_left _ (List.mem_of_getElem? (i := 11) rfl)))))), List.forall_mem_cons.mpr ⟨List.mem_cons_of_mem _ (List.mem_append_left _ (List.mem_append_left _ (List.mem_append_left _ (List.mem_append_left _ (List.mem_of_getElem? (i := 15) rfl))))), (fun _ h => absurd h List.not_mem_nil)⟩⟩⟩⟩, List.forall_mem_cons.mpr ⟨List.mem_cons_of_mem _ (List.mem_append_left _ (List.mem_append_left _ (List.mem_append_left _ (List.mem_append_right _ (List.mem_append_left _ (List.mem_of_getElem? (i := 12) rfl)))))), List.forall_mem_append.mpr ⟨List.forall_mem_cons.mpr ⟨List.mem_cons_of_mem _ (List.mem_append_left _ (List.mem_append_left _ (List.mem_append_left _ (List.mem_append_right _ (List.mem_append_left _ (List.mem_of_getElem? (i := 13) rfl)))))), (fun _ h => absurd h List.not_mem_nil)⟩, (fun _ h => List.mem_cons_of_mem _ (List.mem_append_right _ h))⟩⟩⟩) (by decide +kernel)
set_option maxHeartbeats 4000000 in
set_option maxRecDepth 100000 in
theorem x_X11_copy_e (l : Launch) (D : va_G) (sz : Nat) (sk : Value) (a : Nat → Nat) (t : Nat → ClassId) (i : Nat → Int32) (q : Int64) (c : Nat → Nat → Int32) (d : Nat → Nat → Int64) (w1 : Int32) (s1 : Int32) (n1 : Int32) (w2 : Int32) (n2 : Int32) (n3 : Int32) (hI : xInv i c) : Met l yX11_copy wm_X11_copy_e ({ frames := 1, cells := 0, slots := 0, locals := 40 }) (va_Pc [.ref (a 100), .int w1, .int s1, .int n1, .int w2, .int n2, .int n3] (yB (a 186) D sz (xwT sk a t i q c d) (xtT t))) (va_Qi (fun (r : Int32) (u : MS) => True ∧ xInv u.1 u.2.2.1 ∧ (∀ k, k ∉ ([102] : List Nat) → u.1 k = i k) ∧ (∀ k, k ∉ ([101] : List Nat) → u.2.2.1 k = c k) ∧ ((¬ (0 ≤ w1.toInt ∧ w1.toInt < (i 111).toInt ∧ 0 ≤ w2.toInt ∧ w2.toInt < (i 111).toInt ∧ 0 ≤ s1.toInt ∧ s1.toInt ≤ 3) ∧ r.toInt = -1) ∨ (0 ≤ w1.toInt ∧ w1.toInt < (i 111).toInt ∧ 0 ≤ w2.toInt ∧ w2.toInt < (i 111).toInt ∧ 0 ≤ s1.toInt ∧ s1.toInt ≤ 3 ∧ ¬ ((c 158 w1.toNatClampNeg).toInt = s1.toInt ∧ (c 158 w2.toNatClampNeg).toInt = s1.toInt ∧ 0 ≤ n1.toInt ∧ 0 ≤ n2.toInt ∧ 0 ≤ n3.toInt ∧ n1.toInt + n3.toInt ≤ (c 159 w1.toNatClampNeg).toInt ∧ n2.toInt + n3.toInt ≤ (c 159 w2.toNatClampNeg).toInt) ∧ r.toInt = -3) ∨ (0 ≤ w1.toInt ∧ w1.toInt < (i 111).toInt ∧ 0 ≤ w2.toInt ∧ w2.toInt < (i 111).toInt ∧ 0 ≤ s1.toInt ∧ s1.toInt ≤ 3 ∧ (c 158 w1.toNatClampNeg).toInt = s1.toInt ∧ (c 158 w2.toNatClampNeg).toInt = s1.toInt ∧ 0 ≤ n1.toInt ∧ 0 ≤ n2.toInt ∧ 0 ≤ n3.toInt ∧ n1.toInt + n3.toInt ≤ (c 159 w1.toNatClampNeg).toInt ∧ n2.toInt + n3.toInt ≤ (c 159 w2.toNatClampNeg).toInt ∧ r.toInt = 1))) (oC D (va_A (xwT sk a t i q c d) sz) (fun u : MS => xwT sk a t u.1 u.2.1 u.2.2.1 u.2.2.2) (fun _ => [])) (va_A (xwT sk a t i q c d) sz)) 0 0 (va_A (xwT sk a t i q c d) sz) := by
  refine Met.ofW (cc := cX11_copy) (maxL := 7) (ret := (some .int)) (by decide) rfl ?_
  intro p e s m args below meth cd s₁ B hml hv
  obtain ⟨rfl, ⟨hsz, hP, hK, hD0⟩, hN, hZ, hBW⟩ := hv
  have hx := B.exec
  have hb := B.bytes
  have hr := B.returns
  have hts := atoms_spec (ws := wm_X11_copy_e) B.pre
  have hown : s.vm.findClass RX11 = some m.cls := findClass_of_methodNamed B.named
  have hlocks := B.notSynchronized
  subst hsz
  have hD := hD0.self (sz := s.heap.size)
  have hZ := xZ_A hZ hP hBW
  generalize hAe : va_A (xwT sk a t i q c d) s.heap.size = A at hD hZ ⊢
  have hA : ∀ q : Nat, s.heap.size ≤ q → A q := fun q h => by rw [← hAe]; exact Or.inr h
  have hS : va_S A s.heap s.heap [] := va_S.rf
  have hfi : ∀ k, k ∉ ([] : List Nat) → i k = i k := fun _ _ => rfl
  have hfc : ∀ k, k ∉ ([] : List Nat) → c k = c k := fun _ _ => rfl
  have hl := lv_entry ([.ref (a 100), .int w1, .int s1, .int n1, .int w2, .int n2, .int n3]) (n := 7) (Nat.le_of_ble_eq_true rfl)
  rw [lg_entry_eq]
  generalize (lg_sl ([.ref (a 100), .int w1, .int s1, .int n1, .int w2, .int n2, .int n3]) ++ List.replicate (7 - (lg_sl ([.ref (a 100), .int w1, .int s1, .int n1, .int w2, .int n2, .int n3])).length) Slot.unset).toArray = ls at hl ⊢
  have hl : lv_has ls 7 [(0, .ref (a 100)), (1, .int w1), (2, .int s1), (3, .int n1), (4, .int w2), (5, .int n2), (6, .int n3)] := hl
  have rb111_i : 0 ≤ (i 111).toInt ∧ (i 111).toInt ≤ 30 := hI.1 111
  refine lv_aload_n hx hb dX11_copy_0 rfl (lv_at hl 0 rfl) ?_
  refine xgT_X_world hx hb hts (fun _ h => List.mem_cons_of_mem _ (List.mem_append_left _ (List.mem_append_left _ (List.mem_append_right _ h)))) hown hK hP (hts (.fieldLink RX11 10 "TalePlay" "world" "LTalePlay$World;") (List.mem_cons_of_mem _ (List.mem_append_left _ (List.mem_append_left _ (List.mem_append_left _ (List.mem_append_left _ (List.mem_of_getElem? (i := 0) rfl))))))) dX11_copy_1 ?_
  refine lv_iload_n hx hb dX11_copy_4 rfl (lv_at hl 1 rfl) ?_
  refine ro_calli (va_runV (As := [.int w1]) (rest := []) ⟨hx, hb, hml, hown, hts⟩ (x_X10_hasObject l D s.heap.size .null a t i q c d w1 hI ) (cwV 1 hts gm_X11_copy_e_X10_hasObject_109 rfl rfl rfl (by decide +kernel) ⟨Nat.le_of_ble_eq_true rfl, Nat.le_of_ble_eq_true rfl⟩) (yA_V hN (xZ_k hZ hS hA) (xkT_W hK) (xuT_W (sk := sk) hP) (ci := 10) (q0 := 0) rfl rfl) rfl rfl hl.1 rfl (lv_room (Nat.le_of_ble_eq_true rfl)) dX11_copy_5 ⟨Nat.le_of_ble_eq_true rfl, Nat.le_of_ble_eq_true rfl⟩) hS hA hP (fun r1 u1 H locs hw1 hP hS => ?_)
  have hw1 : r1 = if (0 ≤ w1.toInt ∧ w1.toInt < (i 111).toInt) then 1 else 0 := hw1
  refine lv_if_eq (tgt := 31) hx hb dX11_copy_8 (by decide) (fun c2 => ?_) (fun c2 => ?_)
  · have f2 := fl_f hw1 c2
    refine lv_iconst (v := (-1)) hx hb dX11_copy_31 (by decide) ?_
    exact rw_iret (i, q, c, d) hx hb hr hlocks hS (hK.sub (tys' := []) [] rfl) hP hD dX11_copy_32 ⟨trivial, hI, fr_w hfi (by decide), fr_w hfc (by decide), (show (¬ (0 ≤ w1.toInt ∧ w1.toInt < (i 111).toInt ∧ 0 ≤ w2.toInt ∧ w2.toInt < (i 111).toInt ∧ 0 ≤ s1.toInt ∧ s1.toInt ≤ 3) ∧ ((-1) : Int32).toInt = -1) ∨ (0 ≤ w1.toInt ∧ w1.toInt < (i 111).toInt ∧ 0 ≤ w2.toInt ∧ w2.toInt < (i 111).toInt ∧ 0 ≤ s1.toInt ∧ s1.toInt ≤ 3 ∧ ¬ ((c 158 w1.toNatClampNeg).toInt = s1.toInt ∧ (c 158 w2.toNatClampNeg).toInt = s1.toInt ∧ 0 ≤ n1.toInt ∧ 0 ≤ n2.toInt ∧ 0 ≤ n3.toInt ∧ n1.toInt + n3.toInt ≤ (c 159 w1.toNatClampNeg).toInt ∧ n2.toInt + n3.toInt ≤ (c 159 w2.toNatClampNeg).toInt) ∧ ((-1) : Int32).toInt = -3) ∨ (0 ≤ w1.toInt ∧ w1.toInt < (i 111).toInt ∧ 0 ≤ w2.toInt ∧ w2.toInt < (i 111).toInt ∧ 0 ≤ s1.toInt ∧ s1.toInt ≤ 3 ∧ (c 158 w1.toNatClampNeg).toInt = s1.toInt ∧ (c 158 w2.toNatClampNeg).toInt = s1.toInt ∧ 0 ≤ n1.toInt ∧ 0 ≤ n2.toInt ∧ 0 ≤ n3.toInt ∧ n1.toInt + n3.toInt ≤ (c 159 w1.toNatClampNeg).toInt ∧ n2.toInt + n3.toInt ≤ (c 159 w2.toNatClampNeg).toInt ∧ ((-1) : Int32).toInt = 1) from by have h50 : ((-1) : Int32).toInt = -1 := (by decide); omega)⟩
  · have f2 := fl_t hw1 c2
    refine lv_aload_n hx hb dX11_copy_11 rfl (lv_at hl 0 rfl) ?_
    refine xgT_X_world hx hb hts (fun _ h => List.mem_cons_of_mem _ (List.mem_append_left _ (List.mem_append_left _ (List.mem_append_right _ h)))) hown hK hP (hts (.fieldLink RX11 10 "TalePlay" "world" "LTalePlay$World;") (List.mem_cons_of_mem _ (List.mem_append_left _ (List.mem_append_left _ (List.mem_append_left _ (List.mem_append_left _ (List.mem_of_getElem? (i := 0) rfl))))))) dX11_copy_12 ?_
    refine lv_iload hx hb dX11_copy_15 (lv_at hl 4 rfl) ?_
    refine ro_calli (va_runV (As := [.int w2]) (rest := []) ⟨hx, hb, hml, hown, hts⟩ (x_X10_hasObject l D H.size .null a t i q c d w2 hI ) (cwV 1 hts gm_X11_copy_e_X10_hasObject_109 rfl rfl rfl (by decide +kernel) ⟨Nat.le_of_ble_eq_true rfl, Nat.le_of_ble_eq_true rfl⟩) (yA_V hN (xZ_k hZ hS hA) (xkT_W hK) (xuT_W (sk := sk) hP) (ci := 10) (q0 := 0) rfl rfl) rfl rfl hl.1 rfl (lv_room (Nat.le_of_ble_eq_true rfl)) dX11_copy_17 ⟨Nat.le_of_ble_eq_true rfl, Nat.le_of_ble_eq_true rfl⟩) hS hA hP (fun r3 u3 H locs hw3 hP hS => ?_)
    have hw3 : r3 = if (0 ≤ w2.toInt ∧ w2.toInt < (i 111).toInt) then 1 else 0 := hw3
    refine lv_if_eq (tgt := 31) hx hb dX11_copy_20 (by decide) (fun c4 => ?_) (fun c4 => ?_)
    · have f4 := fl_f hw3 c4
      refine lv_iconst (v := (-1)) hx hb dX11_copy_31 (by decide) ?_
      exact rw_iret (i, q, c, d) hx hb hr hlocks hS (hK.sub (tys' := []) [] rfl) hP hD dX11_copy_32 ⟨trivial, hI, fr_w hfi (by decide), fr_w hfc (by decide), (show (¬ (0 ≤ w1.toInt ∧ w1.toInt < (i 111).toInt ∧ 0 ≤ w2.toInt ∧ w2.toInt < (i 111).toInt ∧ 0 ≤ s1.toInt ∧ s1.toInt ≤ 3) ∧ ((-1) : Int32).toInt = -1) ∨ (0 ≤ w1.toInt ∧ w1.toInt < (i 111).toInt ∧ 0 ≤ w2.toInt ∧ w2.toInt < (i 111).toInt ∧ 0 ≤ s1.toInt ∧ s1.toInt ≤ 3 ∧ ¬ ((c 158 w1.toNatClampNeg).toInt = s1.toInt ∧ (c 158 w2.toNatClampNeg).toInt = s1.toInt ∧ 0 ≤ n1.toInt ∧ 0 ≤ n2.toInt ∧ 0 ≤ n3.toInt ∧ n1.toInt + n3.toInt ≤ (c 159 w1.toNatClampNeg).toInt ∧ n2.toInt + n3.toInt ≤ (c 159 w2.toNatClampNeg).toInt) ∧ ((-1) : Int32).toInt = -3) ∨ (0 ≤ w1.toInt ∧ w1.toInt < (i 111).toInt ∧ 0 ≤ w2.toInt ∧ w2.toInt < (i 111).toInt ∧ 0 ≤ s1.toInt ∧ s1.toInt ≤ 3 ∧ (c 158 w1.toNatClampNeg).toInt = s1.toInt ∧ (c 158 w2.toNatClampNeg).toInt = s1.toInt ∧ 0 ≤ n1.toInt ∧ 0 ≤ n2.toInt ∧ 0 ≤ n3.toInt ∧ n1.toInt + n3.toInt ≤ (c 159 w1.toNatClampNeg).toInt ∧ n2.toInt + n3.toInt ≤ (c 159 w2.toNatClampNeg).toInt ∧ ((-1) : Int32).toInt = 1) from by have h50 : ((-1) : Int32).toInt = -1 := (by decide); omega)⟩
    · have f4 := fl_t hw3 c4
      refine lv_iload_n hx hb dX11_copy_23 rfl (lv_at hl 2 rfl) ?_
      refine lv_iconst (v := 4) hx hb dX11_copy_24 (by decide) ?_
      have hPc := hP.sub (ws' := []) [] rfl
      have hKc := hK.sub (tys' := []) [] rfl
      refine ro_calli (va_runS (As := [.int s1, .int 4]) (rest := []) ⟨hx, hb, hml, hown, hts⟩ (c_X11_isBelow l D H.size s1 4 s1.toInt 4 rfl (by decide)) (va_cwS 2 hts gm_X11_copy_e_X11_isBelow_91 rfl rfl rfl (by decide +kernel) ⟨Nat.le_of_ble_eq_true rfl, Nat.le_of_ble_eq_true rfl⟩) (pA_S hKc hPc) rfl rfl hl.1 rfl (lv_room (Nat.le_of_ble_eq_true rfl)) dX11_copy_25 ⟨Nat.le_of_ble_eq_true rfl, Nat.le_of_ble_eq_true rfl⟩) hS hA hP (fun r6 u6 H locs hw6 hP hS => ?_)
      have hw6 : r6 = if (0 ≤ s1.toInt ∧ s1.toInt < 4) then 1 else 0 := hw6
      refine lv_if_ne (tgt := 33) hx hb dX11_copy_28 (by decide) (fun c7 => ?_) (fun c7 => ?_)
      · have f7 := fl_t hw6 c7
        refine lv_aload_n hx hb dX11_copy_33 rfl (lv_at hl 0 rfl) ?_
        refine xgT_X_lines hx hb hts (fun _ h => List.mem_cons_of_mem _ (List.mem_append_left _ (List.mem_append_left _ (List.mem_append_right _ h)))) hown hK hP (hts (.fieldLink RX11 53 "TalePlay" "lines" "LTalePlay$Lines;") (List.mem_cons_of_mem _ (List.mem_append_left _ (List.mem_append_left _ (List.mem_append_left _ (List.mem_append_left _ (List.mem_of_getElem? (i := 11) rfl))))))) dX11_copy_34 ?_
        refine lv_iload_n hx hb dX11_copy_37 rfl (lv_at hl 1 rfl) ?_
        refine lv_iload_n hx hb dX11_copy_38 rfl (lv_at hl 2 rfl) ?_
        refine ro_calli (va_runV (As := [.int w1, .int s1]) (rest := []) ⟨hx, hb, hml, hown, hts⟩ (x_X4_isOther_e l D H.size sk a t i q c d w1 s1 hI (show 0 ≤ w1.toInt ∧ w1.toInt ≤ 29 from by omega)) (cwV 2 hts gm_X11_copy_e_X4_isOther_e_319 rfl rfl rfl (by decide +kernel) ⟨Nat.le_of_ble_eq_true rfl, Nat.le_of_ble_eq_true rfl⟩) (yA_V hN (xZ_k hZ hS hA) hK hP (ci := 4) (q0 := 43) rfl rfl) rfl rfl hl.1 rfl (lv_room (Nat.le_of_ble_eq_true rfl)) dX11_copy_39 ⟨Nat.le_of_ble_eq_true rfl, Nat.le_of_ble_eq_true rfl⟩) hS hA hP (fun r8 u8 H locs hw8 hP hS => ?_)
        have hw8 : ((r8.toInt = 1 ∧ ¬ (c 158 w1.toNatClampNeg).toInt = -9 ∧ ¬ (c 158 w1.toNatClampNeg).toInt = s1.toInt) ∨ (r8.toInt = 0 ∧ ((c 158 w1.toNatClampNeg).toInt = -9 ∨ (c 158 w1.toNatClampNeg).toInt = s1.toInt))) := hw8
        refine lv_if_ne (tgt := 58) hx hb dX11_copy_42 (by decide) (fun c9 => ?_) (fun c9 => ?_)
        · have f9 := mt (ti_eq (a := r8.toInt) (b := 0) rfl (by decide)).mpr c9
          refine lv_aload_n hx hb dX11_copy_58 rfl (lv_at hl 0 rfl) ?_
          refine lv_iconst (v := 3) hx hb dX11_copy_59 (by decide) ?_
          refine al_calli (va_runV (As := [.int 3]) (rest := []) ⟨hx, hb, hml, hown, hts⟩ (x_X11_answerFinding l D H.size sk a t i q c d 3 hI (show 1 ≤ 3 ∧ 3 ≤ 6 from by have h90 : (3 : Int32).toInt = 3 := (by decide); omega)) (cwV 1 hts gm_X11_copy_e_X11_answerFinding_128 rfl rfl rfl (by decide +kernel) ⟨Nat.le_of_ble_eq_true rfl, Nat.le_of_ble_eq_true rfl⟩) (yB_V hN (xZ_k hZ hS hA) (xZ_n hZ hD) hK hP hD (ci := 11) (q0 := 0) rfl rfl) rfl rfl hl.1 rfl (lv_room (Nat.le_of_ble_eq_true rfl)) dX11_copy_60 ⟨Nat.le_of_ble_eq_true rfl, Nat.le_of_ble_eq_true rfl⟩) hS hA hP hD (fun r10 u10 H locs hw10 hP hD hS => ?_)
          obtain ⟨i10, q10, c10, d10⟩ := u10
          have hw10 : r10 = (-3) ∧ xInv i10 c10 ∧ (∀ k, k ∉ ([102] : List Nat) → i10 k = i k) ∧ (∀ k, k ∉ ([101] : List Nat) → c10 k = c k) := hw10
          obtain ⟨hw10, hI, hei10, hec10⟩ := hw10
          have hfi : ∀ k, k ∉ ([102] : List Nat) → i10 k = i k := fr_z hfi hei10 (by decide) (by decide)
          have hfc : ∀ k, k ∉ ([101] : List Nat) → c10 k = c k := fr_z hfc hec10 (by decide) (by decide)
          have hw10 : r10 = (-3) := hw10
          subst hw10
          exact rw_iret (i10, q10, c10, d10) hx hb hr hlocks hS (hK.sub (tys' := []) [] rfl) hP hD dX11_copy_63 ⟨trivial, hI, fr_w hfi (by decide), fr_w hfc (by decide), (show (¬ (0 ≤ w1.toInt ∧ w1.toInt < (i 111).toInt ∧ 0 ≤ w2.toInt ∧ w2.toInt < (i 111).toInt ∧ 0 ≤ s1.toInt ∧ s1.toInt ≤ 3) ∧ ((-3) : Int32).toInt = -1) ∨ (0 ≤ w1.toInt ∧ w1.toInt < (i 111).toInt ∧ 0 ≤ w2.toInt ∧ w2.toInt < (i 111).toInt ∧ 0 ≤ s1.toInt ∧ s1.toInt ≤ 3 ∧ ¬ ((c 158 w1.toNatClampNeg).toInt = s1.toInt ∧ (c 158 w2.toNatClampNeg).toInt = s1.toInt ∧ 0 ≤ n1.toInt ∧ 0 ≤ n2.toInt ∧ 0 ≤ n3.toInt ∧ n1.toInt + n3.toInt ≤ (c 159 w1.toNatClampNeg).toInt ∧ n2.toInt + n3.toInt ≤ (c 159 w2.toNatClampNeg).toInt) ∧ ((-3) : Int32).toInt = -3) ∨ (0 ≤ w1.toInt ∧ w1.toInt < (i 111).toInt ∧ 0 ≤ w2.toInt ∧ w2.toInt < (i 111).toInt ∧ 0 ≤ s1.toInt ∧ s1.toInt ≤ 3 ∧ (c 158 w1.toNatClampNeg).toInt = s1.toInt ∧ (c 158 w2.toNatClampNeg).toInt = s1.toInt ∧ 0 ≤ n1.toInt ∧ 0 ≤ n2.toInt ∧ 0 ≤ n3.toInt ∧ n1.toInt + n3.toInt ≤ (c 159 w1.toNatClampNeg).toInt ∧ n2.toInt + n3.toInt ≤ (c 159 w2.toNatClampNeg).toInt ∧ ((-3) : Int32).toInt = 1) from by have h50 : ((-3) : Int32).toInt = -3 := (by decide); omega)⟩
        · have f9 := (ti_eq (a := r8.toInt) (b := 0) rfl (by decide)).mp c9
          refine lv_aload_n hx hb dX11_copy_45 rfl (lv_at hl 0 rfl) ?_
          refine xgT_X_lines hx hb hts (fun _ h => List.mem_cons_of_mem _ (List.mem_append_left _ (List.mem_append_left _ (List.mem_append_right _ h)))) hown hK hP (hts (.fieldLink RX11 53 "TalePlay" "lines" "LTalePlay$Lines;") (List.mem_cons_of_mem _ (List.mem_append_left _ (List.mem_append_left _ (List.mem_append_left _ (List.mem_append_left _ (List.mem_of_getElem? (i := 11) rfl))))))) dX11_copy_46 ?_
          refine lv_iload hx hb dX11_copy_49 (lv_at hl 4 rfl) ?_
          refine lv_iload_n hx hb dX11_copy_51 rfl (lv_at hl 2 rfl) ?_
          refine ro_calli (va_runV (As := [.int w2, .int s1]) (rest := []) ⟨hx, hb, hml, hown, hts⟩ (x_X4_isOther_e l D H.size sk a t i q c d w2 s1 hI (show 0 ≤ w2.toInt ∧ w2.toInt ≤ 29 from by omega)) (cwV 2 hts gm_X11_copy_e_X4_isOther_e_319 rfl rfl rfl (by decide +kernel) ⟨Nat.le_of_ble_eq_true rfl, Nat.le_of_ble_eq_true rfl⟩) (yA_V hN (xZ_k hZ hS hA) hK hP (ci := 4) (q0 := 43) rfl rfl) rfl rfl hl.1 rfl (lv_room (Nat.le_of_ble_eq_true rfl)) dX11_copy_52 ⟨Nat.le_of_ble_eq_true rfl, Nat.le_of_ble_eq_true rfl⟩) hS hA hP (fun r11 u11 H locs hw11 hP hS => ?_)
          have hw11 : ((r11.toInt = 1 ∧ ¬ (c 158 w2.toNatClampNeg).toInt = -9 ∧ ¬ (c 158 w2.toNatClampNeg).toInt = s1.toInt) ∨ (r11.toInt = 0 ∧ ((c 158 w2.toNatClampNeg).toInt = -9 ∨ (c 158 w2.toNatClampNeg).toInt = s1.toInt))) := hw11
          refine lv_if_eq (tgt := 64) hx hb dX11_copy_55 (by decide) (fun c12 => ?_) (fun c12 => ?_)
          · have f12 := (ti_eq (a := r11.toInt) (b := 0) rfl (by decide)).mp c12
            refine lv_aload_n hx hb dX11_copy_64 rfl (lv_at hl 0 rfl) ?_
            refine xgT_X_lines hx hb hts (fun _ h => List.mem_cons_of_mem _ (List.mem_append_left _ (List.mem_append_left _ (List.mem_append_right _ h)))) hown hK hP (hts (.fieldLink RX11 53 "TalePlay" "lines" "LTalePlay$Lines;") (List.mem_cons_of_mem _ (List.mem_append_left _ (List.mem_append_left _ (List.mem_append_left _ (List.mem_append_left _ (List.mem_of_getElem? (i := 11) rfl))))))) dX11_copy_65 ?_
            refine xgT_L_sorts hx hb hts (fun _ h => List.mem_cons_of_mem _ (List.mem_append_right _ h)) hown hK hP (hts (.fieldLink RX11 322 "TalePlay$Lines" "sorts" "[I") (List.mem_cons_of_mem _ (List.mem_append_left _ (List.mem_append_left _ (List.mem_append_left _ (List.mem_append_right _ (List.mem_append_left _ (List.mem_of_getElem? (i := 8) rfl)))))))) dX11_copy_68 ?_
            refine lv_iload_n hx hb dX11_copy_71 rfl (lv_at hl 1 rfl) ?_
            refine xlT_158 hx hb hK hP (vp_in_iff.mpr (by have h9 : w1.toInt = w1.toInt := rfl; omega)) dX11_copy_72 (fun x13 ex13 => ?_)
            have rx13 : x13.toInt = -9 ∨ (0 ≤ x13.toInt ∧ x13.toInt ≤ 3) := by rw [ex13]; exact hI.2 158 _
            have gx13 : (c 158 (w1 : Int32).toNatClampNeg).toInt = x13.toInt := (congrArg Int32.toInt ex13).symm
            refine lv_bipush (v := (-9)) hx hb dX11_copy_73 (by decide) ?_
            refine lv_icmp_eq (tgt := 93) hx hb dX11_copy_75 (by decide) (fun c14 => ?_) (fun c14 => ?_)
            · have f14 := (ti_eq (a := x13.toInt) (b := (-9)) rfl (by decide)).mp c14
              refine lv_aload_n hx hb dX11_copy_93 rfl (lv_at hl 0 rfl) ?_
              refine lv_iconst (v := 1) hx hb dX11_copy_94 (by decide) ?_
              refine al_calli (va_runV (As := [.int 1]) (rest := []) ⟨hx, hb, hml, hown, hts⟩ (x_X11_answerFinding l D H.size sk a t i q c d 1 hI (show 1 ≤ 1 ∧ 1 ≤ 6 from by have h90 : (1 : Int32).toInt = 1 := (by decide); omega)) (cwV 1 hts gm_X11_copy_e_X11_answerFinding_128 rfl rfl rfl (by decide +kernel) ⟨Nat.le_of_ble_eq_true rfl, Nat.le_of_ble_eq_true rfl⟩) (yB_V hN (xZ_k hZ hS hA) (xZ_n hZ hD) hK hP hD (ci := 11) (q0 := 0) rfl rfl) rfl rfl hl.1 rfl (lv_room (Nat.le_of_ble_eq_true rfl)) dX11_copy_95 ⟨Nat.le_of_ble_eq_true rfl, Nat.le_of_ble_eq_true rfl⟩) hS hA hP hD (fun r15 u15 H locs hw15 hP hD hS => ?_)
              obtain ⟨i15, q15, c15, d15⟩ := u15
              have hw15 : r15 = (-3) ∧ xInv i15 c15 ∧ (∀ k, k ∉ ([102] : List Nat) → i15 k = i k) ∧ (∀ k, k ∉ ([101] : List Nat) → c15 k = c k) := hw15
              obtain ⟨hw15, hI, hei15, hec15⟩ := hw15
              have hfi : ∀ k, k ∉ ([102] : List Nat) → i15 k = i k := fr_z hfi hei15 (by decide) (by decide)
              have hfc : ∀ k, k ∉ ([101] : List Nat) → c15 k = c k := fr_z hfc hec15 (by decide) (by decide)
              have hw15 : r15 = (-3) := hw15
              subst hw15
              exact rw_iret (i15, q15, c15, d15) hx hb hr hlocks hS (hK.sub (tys' := []) [] rfl) hP hD dX11_copy_98 ⟨trivial, hI, fr_w hfi (by decide), fr_w hfc (by decide), (show (¬ (0 ≤ w1.toInt ∧ w1.toInt < (i 111).toInt ∧ 0 ≤ w2.toInt ∧ w2.toInt < (i 111).toInt ∧ 0 ≤ s1.toInt ∧ s1.toInt ≤ 3) ∧ ((-3) : Int32).toInt = -1) ∨ (0 ≤ w1.toInt ∧ w1.toInt < (i 111).toInt ∧ 0 ≤ w2.toInt ∧ w2.toInt < (i 111).toInt ∧ 0 ≤ s1.toInt ∧ s1.toInt ≤ 3 ∧ ¬ ((c 158 w1.toNatClampNeg).toInt = s1.toInt ∧ (c 158 w2.toNatClampNeg).toInt = s1.toInt ∧ 0 ≤ n1.toInt ∧ 0 ≤ n2.toInt ∧ 0 ≤ n3.toInt ∧ n1.toInt + n3.toInt ≤ (c 159 w1.toNatClampNeg).toInt ∧ n2.toInt + n3.toInt ≤ (c 159 w2.toNatClampNeg).toInt) ∧ ((-3) : Int32).toInt = -3) ∨ (0 ≤ w1.toInt ∧ w1.toInt < (i 111).toInt ∧ 0 ≤ w2.toInt ∧ w2.toInt < (i 111).toInt ∧ 0 ≤ s1.toInt ∧ s1.toInt ≤ 3 ∧ (c 158 w1.toNatClampNeg).toInt = s1.toInt ∧ (c 158 w2.toNatClampNeg).toInt = s1.toInt ∧ 0 ≤ n1.toInt ∧ 0 ≤ n2.toInt ∧ 0 ≤ n3.toInt ∧ n1.toInt + n3.toInt ≤ (c 159 w1.toNatClampNeg).toInt ∧ n2.toInt + n3.toInt ≤ (c 159 w2.toNatClampNeg).toInt ∧ ((-3) : Int32).toInt = 1) from by have h50 : ((-3) : Int32).toInt = -3 := (by decide); omega)⟩
            · have f14 := mt (ti_eq (a := x13.toInt) (b := (-9)) rfl (by decide)).mpr c14
              refine lv_aload_n hx hb dX11_copy_78 rfl (lv_at hl 0 rfl) ?_
              refine xgT_X_lines hx hb hts (fun _ h => List.mem_cons_of_mem _ (List.mem_append_left _ (List.mem_append_left _ (List.mem_append_right _ h)))) hown hK hP (hts (.fieldLink RX11 53 "TalePlay" "lines" "LTalePlay$Lines;") (List.mem_cons_of_mem _ (List.mem_append_left _ (List.mem_append_left _ (List.mem_append_left _ (List.mem_append_left _ (List.mem_of_getElem? (i := 11) rfl))))))) dX11_copy_79 ?_
              refine xgT_L_sorts hx hb hts (fun _ h => List.mem_cons_of_mem _ (List.mem_append_right _ h)) hown hK hP (hts (.fieldLink RX11 322 "TalePlay$Lines" "sorts" "[I") (List.mem_cons_of_mem _ (List.mem_append_left _ (List.mem_append_left _ (List.mem_append_left _ (List.mem_append_right _ (List.mem_append_left _ (List.mem_of_getElem? (i := 8) rfl)))))))) dX11_copy_82 ?_
              refine lv_iload hx hb dX11_copy_85 (lv_at hl 4 rfl) ?_
              refine xlT_158 hx hb hK hP (vp_in_iff.mpr (by have h9 : w2.toInt = w2.toInt := rfl; omega)) dX11_copy_87 (fun x16 ex16 => ?_)
              have rx16 : x16.toInt = -9 ∨ (0 ≤ x16.toInt ∧ x16.toInt ≤ 3) := by rw [ex16]; exact hI.2 158 _
              have gx16 : (c 158 (w2 : Int32).toNatClampNeg).toInt = x16.toInt := (congrArg Int32.toInt ex16).symm
              refine lv_bipush (v := (-9)) hx hb dX11_copy_88 (by decide) ?_
              refine lv_icmp_ne (tgt := 99) hx hb dX11_copy_90 (by decide) (fun c17 => ?_) (fun c17 => ?_)
              · have f17 := mt (ti_eq (a := x16.toInt) (b := (-9)) rfl (by decide)).mpr c17
                refine lv_aload_n hx hb dX11_copy_99 rfl (lv_at hl 0 rfl) ?_
                refine xgT_X_lines hx hb hts (fun _ h => List.mem_cons_of_mem _ (List.mem_append_left _ (List.mem_append_left _ (List.mem_append_right _ h)))) hown hK hP (hts (.fieldLink RX11 53 "TalePlay" "lines" "LTalePlay$Lines;") (List.mem_cons_of_mem _ (List.mem_append_left _ (List.mem_append_left _ (List.mem_append_left _ (List.mem_append_left _ (List.mem_of_getElem? (i := 11) rfl))))))) dX11_copy_100 ?_
                refine lv_iload_n hx hb dX11_copy_103 rfl (lv_at hl 1 rfl) ?_
                refine lv_iload_n hx hb dX11_copy_104 rfl (lv_at hl 3 rfl) ?_
                refine lv_iload hx hb dX11_copy_105 (lv_at hl 6 rfl) ?_
                refine ro_calli (va_runV (As := [.int w1, .int n1, .int n3]) (rest := []) ⟨hx, hb, hml, hown, hts⟩ (x_X4_hasRun_e l D H.size sk a t i q c d w1 n1 n3 hI (show 0 ≤ w1.toInt ∧ w1.toInt ≤ 29 from by omega)) (cwV 3 hts gm_X11_copy_e_X4_hasRun_e_325 rfl rfl rfl (by decide +kernel) ⟨Nat.le_of_ble_eq_true rfl, Nat.le_of_ble_eq_true rfl⟩) (yA_V hN (xZ_k hZ hS hA) hK hP (ci := 4) (q0 := 43) rfl rfl) rfl rfl hl.1 rfl (lv_room (Nat.le_of_ble_eq_true rfl)) dX11_copy_107 ⟨Nat.le_of_ble_eq_true rfl, Nat.le_of_ble_eq_true rfl⟩) hS hA hP (fun r18 u18 H locs hw18 hP hS => ?_)
                have hw18 : ((r18.toInt = 1 ∧ 0 ≤ n1.toInt ∧ 0 ≤ n3.toInt ∧ n1.toInt + n3.toInt ≤ (c 159 w1.toNatClampNeg).toInt ∧ (c 159 w1.toNatClampNeg).toInt ≤ 12) ∨ (r18.toInt = 0 ∧ ¬ (0 ≤ n1.toInt ∧ 0 ≤ n3.toInt ∧ n1.toInt + n3.toInt ≤ (c 159 w1.toNatClampNeg).toInt))) := hw18
                refine lv_if_eq (tgt := 129) hx hb dX11_copy_110 (by decide) (fun c19 => ?_) (fun c19 => ?_)
                · have f19 := (ti_eq (a := r18.toInt) (b := 0) rfl (by decide)).mp c19
                  refine lv_aload_n hx hb dX11_copy_129 rfl (lv_at hl 0 rfl) ?_
                  refine lv_iconst (v := 2) hx hb dX11_copy_130 (by decide) ?_
                  refine al_calli (va_runV (As := [.int 2]) (rest := []) ⟨hx, hb, hml, hown, hts⟩ (x_X11_answerFinding l D H.size sk a t i q c d 2 hI (show 1 ≤ 2 ∧ 2 ≤ 6 from by have h90 : (2 : Int32).toInt = 2 := (by decide); omega)) (cwV 1 hts gm_X11_copy_e_X11_answerFinding_128 rfl rfl rfl (by decide +kernel) ⟨Nat.le_of_ble_eq_true rfl, Nat.le_of_ble_eq_true rfl⟩) (yB_V hN (xZ_k hZ hS hA) (xZ_n hZ hD) hK hP hD (ci := 11) (q0 := 0) rfl rfl) rfl rfl hl.1 rfl (lv_room (Nat.le_of_ble_eq_true rfl)) dX11_copy_131 ⟨Nat.le_of_ble_eq_true rfl, Nat.le_of_ble_eq_true rfl⟩) hS hA hP hD (fun r20 u20 H locs hw20 hP hD hS => ?_)
                  obtain ⟨i20, q20, c20, d20⟩ := u20
                  have hw20 : r20 = (-3) ∧ xInv i20 c20 ∧ (∀ k, k ∉ ([102] : List Nat) → i20 k = i k) ∧ (∀ k, k ∉ ([101] : List Nat) → c20 k = c k) := hw20
                  obtain ⟨hw20, hI, hei20, hec20⟩ := hw20
                  have hfi : ∀ k, k ∉ ([102] : List Nat) → i20 k = i k := fr_z hfi hei20 (by decide) (by decide)
                  have hfc : ∀ k, k ∉ ([101] : List Nat) → c20 k = c k := fr_z hfc hec20 (by decide) (by decide)
                  have hw20 : r20 = (-3) := hw20
                  subst hw20
                  exact rw_iret (i20, q20, c20, d20) hx hb hr hlocks hS (hK.sub (tys' := []) [] rfl) hP hD dX11_copy_134 ⟨trivial, hI, fr_w hfi (by decide), fr_w hfc (by decide), (show (¬ (0 ≤ w1.toInt ∧ w1.toInt < (i 111).toInt ∧ 0 ≤ w2.toInt ∧ w2.toInt < (i 111).toInt ∧ 0 ≤ s1.toInt ∧ s1.toInt ≤ 3) ∧ ((-3) : Int32).toInt = -1) ∨ (0 ≤ w1.toInt ∧ w1.toInt < (i 111).toInt ∧ 0 ≤ w2.toInt ∧ w2.toInt < (i 111).toInt ∧ 0 ≤ s1.toInt ∧ s1.toInt ≤ 3 ∧ ¬ ((c 158 w1.toNatClampNeg).toInt = s1.toInt ∧ (c 158 w2.toNatClampNeg).toInt = s1.toInt ∧ 0 ≤ n1.toInt ∧ 0 ≤ n2.toInt ∧ 0 ≤ n3.toInt ∧ n1.toInt + n3.toInt ≤ (c 159 w1.toNatClampNeg).toInt ∧ n2.toInt + n3.toInt ≤ (c 159 w2.toNatClampNeg).toInt) ∧ ((-3) : Int32).toInt = -3) ∨ (0 ≤ w1.toInt ∧ w1.toInt < (i 111).toInt ∧ 0 ≤ w2.toInt ∧ w2.toInt < (i 111).toInt ∧ 0 ≤ s1.toInt ∧ s1.toInt ≤ 3 ∧ (c 158 w1.toNatClampNeg).toInt = s1.toInt ∧ (c 158 w2.toNatClampNeg).toInt = s1.toInt ∧ 0 ≤ n1.toInt ∧ 0 ≤ n2.toInt ∧ 0 ≤ n3.toInt ∧ n1.toInt + n3.toInt ≤ (c 159 w1.toNatClampNeg).toInt ∧ n2.toInt + n3.toInt ≤ (c 159 w2.toNatClampNeg).toInt ∧ ((-3) : Int32).toInt = 1) from by have h50 : ((-3) : Int32).toInt = -3 := (by decide); omega)⟩
                · have f19 := mt (ti_eq (a := r18.toInt) (b := 0) rfl (by decide)).mpr c19
                  refine lv_aload_n hx hb dX11_copy_113 rfl (lv_at hl 0 rfl) ?_
                  refine xgT_X_lines hx hb hts (fun _ h => List.mem_cons_of_mem _ (List.mem_append_left _ (List.mem_append_left _ (List.mem_append_right _ h)))) hown hK hP (hts (.fieldLink RX11 53 "TalePlay" "lines" "LTalePlay$Lines;") (List.mem_cons_of_mem _ (List.mem_append_left _ (List.mem_append_left _ (List.mem_append_left _ (List.mem_append_left _ (List.mem_of_getElem? (i := 11) rfl))))))) dX11_copy_114 ?_
                  refine lv_iload hx hb dX11_copy_117 (lv_at hl 4 rfl) ?_
                  refine lv_iload hx hb dX11_copy_119 (lv_at hl 5 rfl) ?_
                  refine lv_iload hx hb dX11_copy_121 (lv_at hl 6 rfl) ?_
                  refine ro_calli (va_runV (As := [.int w2, .int n2, .int n3]) (rest := []) ⟨hx, hb, hml, hown, hts⟩ (x_X4_hasRun_e l D H.size sk a t i q c d w2 n2 n3 hI (show 0 ≤ w2.toInt ∧ w2.toInt ≤ 29 from by omega)) (cwV 3 hts gm_X11_copy_e_X4_hasRun_e_325 rfl rfl rfl (by decide +kernel) ⟨Nat.le_of_ble_eq_true rfl, Nat.le_of_ble_eq_true rfl⟩) (yA_V hN (xZ_k hZ hS hA) hK hP (ci := 4) (q0 := 43) rfl rfl) rfl rfl hl.1 rfl (lv_room (Nat.le_of_ble_eq_true rfl)) dX11_copy_123 ⟨Nat.le_of_ble_eq_true rfl, Nat.le_of_ble_eq_true rfl⟩) hS hA hP (fun r21 u21 H locs hw21 hP hS => ?_)
                  have hw21 : ((r21.toInt = 1 ∧ 0 ≤ n2.toInt ∧ 0 ≤ n3.toInt ∧ n2.toInt + n3.toInt ≤ (c 159 w2.toNatClampNeg).toInt ∧ (c 159 w2.toNatClampNeg).toInt ≤ 12) ∨ (r21.toInt = 0 ∧ ¬ (0 ≤ n2.toInt ∧ 0 ≤ n3.toInt ∧ n2.toInt + n3.toInt ≤ (c 159 w2.toNatClampNeg).toInt))) := hw21
                  refine lv_if_ne (tgt := 135) hx hb dX11_copy_126 (by decide) (fun c22 => ?_) (fun c22 => ?_)
                  · have f22 := mt (ti_eq (a := r21.toInt) (b := 0) rfl (by decide)).mpr c22
                    refine lv_aload_n hx hb dX11_copy_135 rfl (lv_at hl 0 rfl) ?_
                    refine xgT_X_lines hx hb hts (fun _ h => List.mem_cons_of_mem _ (List.mem_append_left _ (List.mem_append_left _ (List.mem_append_right _ h)))) hown hK hP (hts (.fieldLink RX11 53 "TalePlay" "lines" "LTalePlay$Lines;") (List.mem_cons_of_mem _ (List.mem_append_left _ (List.mem_append_left _ (List.mem_append_left _ (List.mem_append_left _ (List.mem_of_getElem? (i := 11) rfl))))))) dX11_copy_136 ?_
                    refine xgT_L_items hx hb hts (fun _ h => List.mem_cons_of_mem _ (List.mem_append_right _ h)) hown hK hP (hts (.fieldLink RX11 311 "TalePlay$Lines" "items" "[J") (List.mem_cons_of_mem _ (List.mem_append_left _ (List.mem_append_left _ (List.mem_append_left _ (List.mem_append_right _ (List.mem_append_left _ (List.mem_of_getElem? (i := 14) rfl)))))))) dX11_copy_139 ?_
                    refine lv_iload_n hx hb dX11_copy_142 rfl (lv_at hl 1 rfl) ?_
                    refine lv_bipush (v := 12) hx hb dX11_copy_143 (by decide) ?_
                    refine lv_imul hx hb dX11_copy_145 ?_
                    refine lv_topi (fun x23 ex23 => ?_)
                    have tx23 := ti_mul (a := w1.toInt) (b := 12) ex23 rfl (by decide) (by omega) (by omega)
                    refine lv_iload_n hx hb dX11_copy_146 rfl (lv_at hl 3 rfl) ?_
                    refine lv_iadd hx hb dX11_copy_147 ?_
                    refine lv_topi (fun x24 ex24 => ?_)
                    have tx24 := ti_add (a := (w1.toInt * 12)) (b := n1.toInt) ex24 tx23 rfl (by omega) (by omega)
                    refine lv_aload_n hx hb dX11_copy_148 rfl (lv_at hl 0 rfl) ?_
                    refine xgT_X_lines hx hb hts (fun _ h => List.mem_cons_of_mem _ (List.mem_append_left _ (List.mem_append_left _ (List.mem_append_right _ h)))) hown hK hP (hts (.fieldLink RX11 53 "TalePlay" "lines" "LTalePlay$Lines;") (List.mem_cons_of_mem _ (List.mem_append_left _ (List.mem_append_left _ (List.mem_append_left _ (List.mem_append_left _ (List.mem_of_getElem? (i := 11) rfl))))))) dX11_copy_149 ?_
                    refine xgT_L_items hx hb hts (fun _ h => List.mem_cons_of_mem _ (List.mem_append_right _ h)) hown hK hP (hts (.fieldLink RX11 311 "TalePlay$Lines" "items" "[J") (List.mem_cons_of_mem _ (List.mem_append_left _ (List.mem_append_left _ (List.mem_append_left _ (List.mem_append_right _ (List.mem_append_left _ (List.mem_of_getElem? (i := 14) rfl)))))))) dX11_copy_152 ?_
                    refine lv_iload hx hb dX11_copy_155 (lv_at hl 4 rfl) ?_
                    refine lv_bipush (v := 12) hx hb dX11_copy_157 (by decide) ?_
                    refine lv_imul hx hb dX11_copy_159 ?_
                    refine lv_topi (fun x25 ex25 => ?_)
                    have tx25 := ti_mul (a := w2.toInt) (b := 12) ex25 rfl (by decide) (by omega) (by omega)
                    refine lv_iload hx hb dX11_copy_160 (lv_at hl 5 rfl) ?_
                    refine lv_iadd hx hb dX11_copy_162 ?_
                    refine lv_topi (fun x26 ex26 => ?_)
                    have tx26 := ti_add (a := (w2.toInt * 12)) (b := n2.toInt) ex26 tx25 rfl (by omega) (by omega)
                    refine lv_iload hx hb dX11_copy_163 (lv_at hl 6 rfl) ?_
                    refine va_copyl (sp := x24) (dp := x26) (n := n3) hx hb (hml.trans hl.1.symm) hown (hts (.methodLink RX11 328 arraycopyName) (List.mem_cons_of_mem _ (List.mem_append_left _ (List.mem_append_left _ (List.mem_append_left _ (List.mem_append_right _ (List.mem_append_left _ (List.mem_of_getElem? (i := 15) rfl)))))))) (hts (.native arraycopyName) (List.mem_cons_of_mem _ (List.mem_append_left _ (List.mem_append_left _ (List.mem_append_left _ (List.mem_append_right _ (List.mem_append_right _ (List.mem_of_getElem? (i := 0) rfl)))))))) (hts (.static arraycopyName) (List.mem_cons_of_mem _ (List.mem_append_left _ (List.mem_append_left _ (List.mem_append_left _ (List.mem_append_right _ (List.mem_append_right _ (List.mem_of_getElem? (i := 1) rfl)))))))) (hts (.initialized "java/lang/System") (List.mem_cons_of_mem _ (List.mem_append_left _ (List.mem_append_left _ (List.mem_append_left _ (List.mem_append_right _ (List.mem_append_right _ (List.mem_of_getElem? (i := 2) rfl)))))))) hK hP hD hS 46 46 35 35 rfl rfl rfl rfl rfl (mt (ti_lt (a := ((w1.toInt * 12) + n1.toInt)) (b := 0) tx24 (by decide)).mp (by omega)) (mt (ti_lt (a := ((w2.toInt * 12) + n2.toInt)) (b := 0) tx26 (by decide)).mp (by omega)) (mt (ti_lt (a := n3.toInt) (b := 0) rfl (by decide)).mp (by omega)) (by show (x24 : Int32).toInt.toNat + (n3 : Int32).toInt.toNat ≤ 360; have h80 : (x24 : Int32).toInt = ((w1.toInt * 12) + n1.toInt) := tx24; have h81 : (n3 : Int32).toInt = n3.toInt := rfl; omega) (by show (x26 : Int32).toInt.toNat + (n3 : Int32).toInt.toNat ≤ 360; have h80 : (x26 : Int32).toInt = ((w2.toInt * 12) + n2.toInt) := tx26; have h81 : (n3 : Int32).toInt = n3.toInt := rfl; omega) (fun _ _ => rfl) (Nat.le_of_ble_eq_true rfl) (Nat.le_of_ble_eq_true rfl) dX11_copy_165 (fun H locs hP hD hS => ?_)
                    have hP : va_P D vwCl (xwT sk a t i q c (updG d 160 (va_cpy (d 160) (d 160) (x24 : Int32).toNatClampNeg (x26 : Int32).toNatClampNeg (n3 : Int32).toNatClampNeg))) H := hP
                    have hD : va_D A (xwT sk a t i q c (updG d 160 (va_cpy (d 160) (d 160) (x24 : Int32).toNatClampNeg (x26 : Int32).toNatClampNeg (n3 : Int32).toNatClampNeg))) := hD
                    refine lv_iconst (v := 1) hx hb dX11_copy_168 (by decide) ?_
                    exact rw_iret (i, q, c, (updG d 160 (va_cpy (d 160) (d 160) (x24 : Int32).toNatClampNeg (x26 : Int32).toNatClampNeg (n3 : Int32).toNatClampNeg))) hx hb hr hlocks hS (hK.sub (tys' := []) [] rfl) hP hD dX11_copy_169 ⟨trivial, hI, fr_w hfi (by decide), fr_w hfc (by decide), (show (¬ (0 ≤ w1.toInt ∧ w1.toInt < (i 111).toInt ∧ 0 ≤ w2.toInt ∧ w2.toInt < (i 111).toInt ∧ 0 ≤ s1.toInt ∧ s1.toInt ≤ 3) ∧ (1 : Int32).toInt = -1) ∨ (0 ≤ w1.toInt ∧ w1.toInt < (i 111).toInt ∧ 0 ≤ w2.toInt ∧ w2.toInt < (i 111).toInt ∧ 0 ≤ s1.toInt ∧ s1.toInt ≤ 3 ∧ ¬ ((c 158 w1.toNatClampNeg).toInt = s1.toInt ∧ (c 158 w2.toNatClampNeg).toInt = s1.toInt ∧ 0 ≤ n1.toInt ∧ 0 ≤ n2.toInt ∧ 0 ≤ n3.toInt ∧ n1.toInt + n3.toInt ≤ (c 159 w1.toNatClampNeg).toInt ∧ n2.toInt + n3.toInt ≤ (c 159 w2.toNatClampNeg).toInt) ∧ (1 : Int32).toInt = -3) ∨ (0 ≤ w1.toInt ∧ w1.toInt < (i 111).toInt ∧ 0 ≤ w2.toInt ∧ w2.toInt < (i 111).toInt ∧ 0 ≤ s1.toInt ∧ s1.toInt ≤ 3 ∧ (c 158 w1.toNatClampNeg).toInt = s1.toInt ∧ (c 158 w2.toNatClampNeg).toInt = s1.toInt ∧ 0 ≤ n1.toInt ∧ 0 ≤ n2.toInt ∧ 0 ≤ n3.toInt ∧ n1.toInt + n3.toInt ≤ (c 159 w1.toNatClampNeg).toInt ∧ n2.toInt + n3.toInt ≤ (c 159 w2.toNatClampNeg).toInt ∧ (1 : Int32).toInt = 1) from by have h50 : (1 : Int32).toInt = 1 := (by decide); omega)⟩
                  · have f22 := (ti_eq (a := r21.toInt) (b := 0) rfl (by decide)).mp c22
                    refine lv_aload_n hx hb dX11_copy_129 rfl (lv_at hl 0 rfl) ?_
                    refine lv_iconst (v := 2) hx hb dX11_copy_130 (by decide) ?_
                    refine al_calli (va_runV (As := [.int 2]) (rest := []) ⟨hx, hb, hml, hown, hts⟩ (x_X11_answerFinding l D H.size sk a t i q c d 2 hI (show 1 ≤ 2 ∧ 2 ≤ 6 from by have h90 : (2 : Int32).toInt = 2 := (by decide); omega)) (cwV 1 hts gm_X11_copy_e_X11_answerFinding_128 rfl rfl rfl (by decide +kernel) ⟨Nat.le_of_ble_eq_true rfl, Nat.le_of_ble_eq_true rfl⟩) (yB_V hN (xZ_k hZ hS hA) (xZ_n hZ hD) hK hP hD (ci := 11) (q0 := 0) rfl rfl) rfl rfl hl.1 rfl (lv_room (Nat.le_of_ble_eq_true rfl)) dX11_copy_131 ⟨Nat.le_of_ble_eq_true rfl, Nat.le_of_ble_eq_true rfl⟩) hS hA hP hD (fun r28 u28 H locs hw28 hP hD hS => ?_)
                    obtain ⟨i28, q28, c28, d28⟩ := u28
                    have hw28 : r28 = (-3) ∧ xInv i28 c28 ∧ (∀ k, k ∉ ([102] : List Nat) → i28 k = i k) ∧ (∀ k, k ∉ ([101] : List Nat) → c28 k = c k) := hw28
                    obtain ⟨hw28, hI, hei28, hec28⟩ := hw28
                    have hfi : ∀ k, k ∉ ([102] : List Nat) → i28 k = i k := fr_z hfi hei28 (by decide) (by decide)
                    have hfc : ∀ k, k ∉ ([101] : List Nat) → c28 k = c k := fr_z hfc hec28 (by decide) (by decide)
                    have hw28 : r28 = (-3) := hw28
                    subst hw28
                    exact rw_iret (i28, q28, c28, d28) hx hb hr hlocks hS (hK.sub (tys' := []) [] rfl) hP hD dX11_copy_134 ⟨trivial, hI, fr_w hfi (by decide), fr_w hfc (by decide), (show (¬ (0 ≤ w1.toInt ∧ w1.toInt < (i 111).toInt ∧ 0 ≤ w2.toInt ∧ w2.toInt < (i 111).toInt ∧ 0 ≤ s1.toInt ∧ s1.toInt ≤ 3) ∧ ((-3) : Int32).toInt = -1) ∨ (0 ≤ w1.toInt ∧ w1.toInt < (i 111).toInt ∧ 0 ≤ w2.toInt ∧ w2.toInt < (i 111).toInt ∧ 0 ≤ s1.toInt ∧ s1.toInt ≤ 3 ∧ ¬ ((c 158 w1.toNatClampNeg).toInt = s1.toInt ∧ (c 158 w2.toNatClampNeg).toInt = s1.toInt ∧ 0 ≤ n1.toInt ∧ 0 ≤ n2.toInt ∧ 0 ≤ n3.toInt ∧ n1.toInt + n3.toInt ≤ (c 159 w1.toNatClampNeg).toInt ∧ n2.toInt + n3.toInt ≤ (c 159 w2.toNatClampNeg).toInt) ∧ ((-3) : Int32).toInt = -3) ∨ (0 ≤ w1.toInt ∧ w1.toInt < (i 111).toInt ∧ 0 ≤ w2.toInt ∧ w2.toInt < (i 111).toInt ∧ 0 ≤ s1.toInt ∧ s1.toInt ≤ 3 ∧ (c 158 w1.toNatClampNeg).toInt = s1.toInt ∧ (c 158 w2.toNatClampNeg).toInt = s1.toInt ∧ 0 ≤ n1.toInt ∧ 0 ≤ n2.toInt ∧ 0 ≤ n3.toInt ∧ n1.toInt + n3.toInt ≤ (c 159 w1.toNatClampNeg).toInt ∧ n2.toInt + n3.toInt ≤ (c 159 w2.toNatClampNeg).toInt ∧ ((-3) : Int32).toInt = 1) from by have h50 : ((-3) : Int32).toInt = -3 := (by decide); omega)⟩
              · have f17 := (ti_eq (a := x16.toInt) (b := (-9)) rfl (by decide)).mp c17
                refine lv_aload_n hx hb dX11_copy_93 rfl (lv_at hl 0 rfl) ?_
                refine lv_iconst (v := 1) hx hb dX11_copy_94 (by decide) ?_
                refine al_calli (va_runV (As := [.int 1]) (rest := []) ⟨hx, hb, hml, hown, hts⟩ (x_X11_answerFinding l D H.size sk a t i q c d 1 hI (show 1 ≤ 1 ∧ 1 ≤ 6 from by have h90 : (1 : Int32).toInt = 1 := (by decide); omega)) (cwV 1 hts gm_X11_copy_e_X11_answerFinding_128 rfl rfl rfl (by decide +kernel) ⟨Nat.le_of_ble_eq_true rfl, Nat.le_of_ble_eq_true rfl⟩) (yB_V hN (xZ_k hZ hS hA) (xZ_n hZ hD) hK hP hD (ci := 11) (q0 := 0) rfl rfl) rfl rfl hl.1 rfl (lv_room (Nat.le_of_ble_eq_true rfl)) dX11_copy_95 ⟨Nat.le_of_ble_eq_true rfl, Nat.le_of_ble_eq_true rfl⟩) hS hA hP hD (fun r29 u29 H locs hw29 hP hD hS => ?_)
                obtain ⟨i29, q29, c29, d29⟩ := u29
                have hw29 : r29 = (-3) ∧ xInv i29 c29 ∧ (∀ k, k ∉ ([102] : List Nat) → i29 k = i k) ∧ (∀ k, k ∉ ([101] : List Nat) → c29 k = c k) := hw29
                obtain ⟨hw29, hI, hei29, hec29⟩ := hw29
                have hfi : ∀ k, k ∉ ([102] : List Nat) → i29 k = i k := fr_z hfi hei29 (by decide) (by decide)
                have hfc : ∀ k, k ∉ ([101] : List Nat) → c29 k = c k := fr_z hfc hec29 (by decide) (by decide)
                have hw29 : r29 = (-3) := hw29
                subst hw29
                exact rw_iret (i29, q29, c29, d29) hx hb hr hlocks hS (hK.sub (tys' := []) [] rfl) hP hD dX11_copy_98 ⟨trivial, hI, fr_w hfi (by decide), fr_w hfc (by decide), (show (¬ (0 ≤ w1.toInt ∧ w1.toInt < (i 111).toInt ∧ 0 ≤ w2.toInt ∧ w2.toInt < (i 111).toInt ∧ 0 ≤ s1.toInt ∧ s1.toInt ≤ 3) ∧ ((-3) : Int32).toInt = -1) ∨ (0 ≤ w1.toInt ∧ w1.toInt < (i 111).toInt ∧ 0 ≤ w2.toInt ∧ w2.toInt < (i 111).toInt ∧ 0 ≤ s1.toInt ∧ s1.toInt ≤ 3 ∧ ¬ ((c 158 w1.toNatClampNeg).toInt = s1.toInt ∧ (c 158 w2.toNatClampNeg).toInt = s1.toInt ∧ 0 ≤ n1.toInt ∧ 0 ≤ n2.toInt ∧ 0 ≤ n3.toInt ∧ n1.toInt + n3.toInt ≤ (c 159 w1.toNatClampNeg).toInt ∧ n2.toInt + n3.toInt ≤ (c 159 w2.toNatClampNeg).toInt) ∧ ((-3) : Int32).toInt = -3) ∨ (0 ≤ w1.toInt ∧ w1.toInt < (i 111).toInt ∧ 0 ≤ w2.toInt ∧ w2.toInt < (i 111).toInt ∧ 0 ≤ s1.toInt ∧ s1.toInt ≤ 3 ∧ (c 158 w1.toNatClampNeg).toInt = s1.toInt ∧ (c 158 w2.toNatClampNeg).toInt = s1.toInt ∧ 0 ≤ n1.toInt ∧ 0 ≤ n2.toInt ∧ 0 ≤ n3.toInt ∧ n1.toInt + n3.toInt ≤ (c 159 w1.toNatClampNeg).toInt ∧ n2.toInt + n3.toInt ≤ (c 159 w2.toNatClampNeg).toInt ∧ ((-3) : Int32).toInt = 1) from by have h50 : ((-3) : Int32).toInt = -3 := (by decide); omega)⟩
          · have f12 := mt (ti_eq (a := r11.toInt) (b := 0) rfl (by decide)).mpr c12
            refine lv_aload_n hx hb dX11_copy_58 rfl (lv_at hl 0 rfl) ?_
            refine lv_iconst (v := 3) hx hb dX11_copy_59 (by decide) ?_
            refine al_calli (va_runV (As := [.int 3]) (rest := []) ⟨hx, hb, hml, hown, hts⟩ (x_X11_answerFinding l D H.size sk a t i q c d 3 hI (show 1 ≤ 3 ∧ 3 ≤ 6 from by have h90 : (3 : Int32).toInt = 3 := (by decide); omega)) (cwV 1 hts gm_X11_copy_e_X11_answerFinding_128 rfl rfl rfl (by decide +kernel) ⟨Nat.le_of_ble_eq_true rfl, Nat.le_of_ble_eq_true rfl⟩) (yB_V hN (xZ_k hZ hS hA) (xZ_n hZ hD) hK hP hD (ci := 11) (q0 := 0) rfl rfl) rfl rfl hl.1 rfl (lv_room (Nat.le_of_ble_eq_true rfl)) dX11_copy_60 ⟨Nat.le_of_ble_eq_true rfl, Nat.le_of_ble_eq_true rfl⟩) hS hA hP hD (fun r30 u30 H locs hw30 hP hD hS => ?_)
            obtain ⟨i30, q30, c30, d30⟩ := u30
            have hw30 : r30 = (-3) ∧ xInv i30 c30 ∧ (∀ k, k ∉ ([102] : List Nat) → i30 k = i k) ∧ (∀ k, k ∉ ([101] : List Nat) → c30 k = c k) := hw30
            obtain ⟨hw30, hI, hei30, hec30⟩ := hw30
            have hfi : ∀ k, k ∉ ([102] : List Nat) → i30 k = i k := fr_z hfi hei30 (by decide) (by decide)
            have hfc : ∀ k, k ∉ ([101] : List Nat) → c30 k = c k := fr_z hfc hec30 (by decide) (by decide)
            have hw30 : r30 = (-3) := hw30
            subst hw30
            exact rw_iret (i30, q30, c30, d30) hx hb hr hlocks hS (hK.sub (tys' := []) [] rfl) hP hD dX11_copy_63 ⟨trivial, hI, fr_w hfi (by decide), fr_w hfc (by decide), (show (¬ (0 ≤ w1.toInt ∧ w1.toInt < (i 111).toInt ∧ 0 ≤ w2.toInt ∧ w2.toInt < (i 111).toInt ∧ 0 ≤ s1.toInt ∧ s1.toInt ≤ 3) ∧ ((-3) : Int32).toInt = -1) ∨ (0 ≤ w1.toInt ∧ w1.toInt < (i 111).toInt ∧ 0 ≤ w2.toInt ∧ w2.toInt < (i 111).toInt ∧ 0 ≤ s1.toInt ∧ s1.toInt ≤ 3 ∧ ¬ ((c 158 w1.toNatClampNeg).toInt = s1.toInt ∧ (c 158 w2.toNatClampNeg).toInt = s1.toInt ∧ 0 ≤ n1.toInt ∧ 0 ≤ n2.toInt ∧ 0 ≤ n3.toInt ∧ n1.toInt + n3.toInt ≤ (c 159 w1.toNatClampNeg).toInt ∧ n2.toInt + n3.toInt ≤ (c 159 w2.toNatClampNeg).toInt) ∧ ((-3) : Int32).toInt = -3) ∨ (0 ≤ w1.toInt ∧ w1.toInt < (i 111).toInt ∧ 0 ≤ w2.toInt ∧ w2.toInt < (i 111).toInt ∧ 0 ≤ s1.toInt ∧ s1.toInt ≤ 3 ∧ (c 158 w1.toNatClampNeg).toInt = s1.toInt ∧ (c 158 w2.toNatClampNeg).toInt = s1.toInt ∧ 0 ≤ n1.toInt ∧ 0 ≤ n2.toInt ∧ 0 ≤ n3.toInt ∧ n1.toInt + n3.toInt ≤ (c 159 w1.toNatClampNeg).toInt ∧ n2.toInt + n3.toInt ≤ (c 159 w2.toNatClampNeg).toInt ∧ ((-3) : Int32).toInt = 1) from by have h50 : ((-3) : Int32).toInt = -3 := (by decide); omega)⟩
      · have f7 := fl_f hw6 c7
        refine lv_iconst (v := (-1)) hx hb dX11_copy_31 (by decide) ?_
        exact rw_iret (i, q, c, d) hx hb hr hlocks hS (hK.sub (tys' := []) [] rfl) hP hD dX11_copy_32 ⟨trivial, hI, fr_w hfi (by decide), fr_w hfc (by decide), (show (¬ (0 ≤ w1.toInt ∧ w1.toInt < (i 111).toInt ∧ 0 ≤ w2.toInt ∧ w2.toInt < (i 111).toInt ∧ 0 ≤ s1.toInt ∧ s1.toInt ≤ 3) ∧ ((-1) : Int32).toInt = -1) ∨ (0 ≤ w1.toInt ∧ w1.toInt < (i 111).toInt ∧ 0 ≤ w2.toInt ∧ w2.toInt < (i 111).toInt ∧ 0 ≤ s1.toInt ∧ s1.toInt ≤ 3 ∧ ¬ ((c 158 w1.toNatClampNeg).toInt = s1.toInt ∧ (c 158 w2.toNatClampNeg).toInt = s1.toInt ∧ 0 ≤ n1.toInt ∧ 0 ≤ n2.toInt ∧ 0 ≤ n3.toInt ∧ n1.toInt + n3.toInt ≤ (c 159 w1.toNatClampNeg).toInt ∧ n2.toInt + n3.toInt ≤ (c 159 w2.toNatClampNeg).toInt) ∧ ((-1) : Int32).toInt = -3) ∨ (0 ≤ w1.toInt ∧ w1.toInt < (i 111).toInt ∧ 0 ≤ w2.toInt ∧ w2.toInt < (i 111).toInt ∧ 0 ≤ s1.toInt ∧ s1.toInt ≤ 3 ∧ (c 158 w1.toNatClampNeg).toInt = s1.toInt ∧ (c 158 w2.toNatClampNeg).toInt = s1.toInt ∧ 0 ≤ n1.toInt ∧ 0 ≤ n2.toInt ∧ 0 ≤ n3.toInt ∧ n1.toInt + n3.toInt ≤ (c 159 w1.toNatClampNeg).toInt ∧ n2.toInt + n3.toInt ≤ (c 159 w2.toNatClampNeg).toInt ∧ ((-1) : Int32).toInt = 1) from by have h50 : ((-1) : Int32).toInt = -1 := (by decide); omega)⟩

set_option maxHeartbeats 4000000 in
set_option maxRecDepth 100000 in
theorem s_X12_copy_e (l : Launch) (D : va_G) (sz : Nat) (o : Nat) (a : Nat → Nat) (t : Nat → ClassId) (i : Nat → Int32) (q : Int64) (c : Nat → Nat → Int32) (d : Nat → Nat → Int64) (w : Int32) (s1 : Int32) (n1 : Int32) (w2 : Int32) (n2 : Int32) (n3 : Int32) (hI : mInv i c) : Met l yX12_copy wm_X12_copy ({ frames := 2, cells := 0, slots := 0, locals := 46 }) (va_Pc [.ref o, .int w, .int s1, .int n1, .int w2, .int n2, .int n3] (pB D sz (mW o a t i q c d) (mT t))) (va_Qi (fun (r : Int32) (u : MS) => True ∧ mInv u.1 u.2.2.1 ∧ (∀ k, k ∉ ([0] : List Nat) → u.1 k = i k) ∧ (∀ k, k ∉ ([1] : List Nat) → u.2.2.1 k = c k) ∧ ((¬ (0 ≤ w.toInt ∧ w.toInt < (i 5).toInt ∧ 0 ≤ w2.toInt ∧ w2.toInt < (i 5).toInt ∧ 0 ≤ s1.toInt ∧ s1.toInt ≤ 3) ∧ r.toInt = -1) ∨ (0 ≤ w.toInt ∧ w.toInt < (i 5).toInt ∧ 0 ≤ w2.toInt ∧ w2.toInt < (i 5).toInt ∧ 0 ≤ s1.toInt ∧ s1.toInt ≤ 3 ∧ ¬ (¬ (c 63 w.toNatClampNeg).toInt = 0 ∧ ¬ (c 63 w2.toNatClampNeg).toInt = 0 ∧ (c 60 w.toNatClampNeg).toInt = s1.toInt ∧ (c 60 w2.toNatClampNeg).toInt = s1.toInt ∧ 0 ≤ n1.toInt ∧ 0 ≤ n2.toInt ∧ 0 ≤ n3.toInt ∧ n1.toInt + n3.toInt ≤ (c 61 w.toNatClampNeg).toInt ∧ n2.toInt + n3.toInt ≤ (c 61 w2.toNatClampNeg).toInt) ∧ r.toInt = -3) ∨ (0 ≤ w.toInt ∧ w.toInt < (i 5).toInt ∧ 0 ≤ w2.toInt ∧ w2.toInt < (i 5).toInt ∧ 0 ≤ s1.toInt ∧ s1.toInt ≤ 3 ∧ ¬ (c 63 w.toNatClampNeg).toInt = 0 ∧ ¬ (c 63 w2.toNatClampNeg).toInt = 0 ∧ (c 60 w.toNatClampNeg).toInt = s1.toInt ∧ (c 60 w2.toNatClampNeg).toInt = s1.toInt ∧ 0 ≤ n1.toInt ∧ 0 ≤ n2.toInt ∧ 0 ≤ n3.toInt ∧ n1.toInt + n3.toInt ≤ (c 61 w.toNatClampNeg).toInt ∧ n2.toInt + n3.toInt ≤ (c 61 w2.toNatClampNeg).toInt ∧ r.toInt = 1))) (oC D (va_A (mW o a t i q c d) sz) (fun u : MS => mW o a t u.1 u.2.1 u.2.2.1 u.2.2.2) (fun _ => [])) (va_A (mW o a t i q c d) sz)) 0 0 (va_A (mW o a t i q c d) sz) := by
  refine Met.ofW (cc := cX12_copy) (maxL := 8) (ret := (some .int)) (by decide) rfl ?_
  intro p e s m args below meth cd s₁ B hml hv
  obtain ⟨rfl, hsz, hP, hK, hD0⟩ := hv
  have hx := B.exec
  have hb := B.bytes
  have hr := B.returns
  have hts := atoms_spec (ws := wm_X12_copy) B.pre
  have hown : s.vm.findClass RX12 = some m.cls := findClass_of_methodNamed B.named
  have hlocks := B.notSynchronized
  subst hsz
  have hD := hD0.self (sz := s.heap.size)
  generalize hAe : va_A (mW o a t i q c d) s.heap.size = A at hD ⊢
  have hA : ∀ q : Nat, s.heap.size ≤ q → A q := fun q h => by rw [← hAe]; exact Or.inr h
  have hS : va_S A s.heap s.heap [] := va_S.rf
  have hfi : ∀ k, k ∉ ([] : List Nat) → i k = i k := fun _ _ => rfl
  have hfc : ∀ k, k ∉ ([] : List Nat) → c k = c k := fun _ _ => rfl
  have hl := lv_entry ([.ref o, .int w, .int s1, .int n1, .int w2, .int n2, .int n3]) (n := 8) (Nat.le_of_ble_eq_true rfl)
  rw [lg_entry_eq]
  generalize (lg_sl ([.ref o, .int w, .int s1, .int n1, .int w2, .int n2, .int n3]) ++ List.replicate (8 - (lg_sl ([.ref o, .int w, .int s1, .int n1, .int w2, .int n2, .int n3])).length) Slot.unset).toArray = ls at hl ⊢
  have hl : lv_has ls 8 [(0, .ref o), (1, .int w), (2, .int s1), (3, .int n1), (4, .int w2), (5, .int n2), (6, .int n3)] := hl
  have rb5_i : 0 ≤ (i 5).toInt ∧ (i 5).toInt ≤ 30 := hI.1 5
  refine lv_aload_n hx hb dX12_copy_0 rfl (lv_at hl 0 rfl) ?_
  refine lv_iload_n hx hb dX12_copy_1 rfl (lv_at hl 1 rfl) ?_
  refine ro_calli (va_runV (As := [.int w]) (rest := []) ⟨hx, hb, hml, hown, hts⟩ (s_X12_isObject l D s.heap.size o a t i q c d w hI ) (cwV 1 hts gm_X12_copy_X12_isObject rfl rfl rfl (by decide +kernel) ⟨Nat.le_of_ble_eq_true rfl, Nat.le_of_ble_eq_true rfl⟩) (pA_V hK hP (ci := 12) (q0 := 0) rfl rfl) rfl rfl hl.1 rfl (lv_room (Nat.le_of_ble_eq_true rfl)) dX12_copy_2 ⟨Nat.le_of_ble_eq_true rfl, Nat.le_of_ble_eq_true rfl⟩) hS hA hP (fun r1 u1 H locs hw1 hP hS => ?_)
  have hw1 : r1 = if (0 ≤ w.toInt ∧ w.toInt ≤ (i 5).toInt - 1) then 1 else 0 := hw1
  refine lv_if_eq (tgt := 29) hx hb dX12_copy_5 (by decide) (fun c2 => ?_) (fun c2 => ?_)
  · have f2 := fl_f hw1 c2
    refine lv_iconst (v := (-1)) hx hb dX12_copy_29 (by decide) ?_
    exact rw_iret (i, q, c, d) hx hb hr hlocks hS (hK.sub (tys' := []) [] rfl) hP hD dX12_copy_30 ⟨trivial, hI, fr_w hfi (by decide), fr_w hfc (by decide), (show (¬ (0 ≤ w.toInt ∧ w.toInt < (i 5).toInt ∧ 0 ≤ w2.toInt ∧ w2.toInt < (i 5).toInt ∧ 0 ≤ s1.toInt ∧ s1.toInt ≤ 3) ∧ ((-1) : Int32).toInt = -1) ∨ (0 ≤ w.toInt ∧ w.toInt < (i 5).toInt ∧ 0 ≤ w2.toInt ∧ w2.toInt < (i 5).toInt ∧ 0 ≤ s1.toInt ∧ s1.toInt ≤ 3 ∧ ¬ (¬ (c 63 w.toNatClampNeg).toInt = 0 ∧ ¬ (c 63 w2.toNatClampNeg).toInt = 0 ∧ (c 60 w.toNatClampNeg).toInt = s1.toInt ∧ (c 60 w2.toNatClampNeg).toInt = s1.toInt ∧ 0 ≤ n1.toInt ∧ 0 ≤ n2.toInt ∧ 0 ≤ n3.toInt ∧ n1.toInt + n3.toInt ≤ (c 61 w.toNatClampNeg).toInt ∧ n2.toInt + n3.toInt ≤ (c 61 w2.toNatClampNeg).toInt) ∧ ((-1) : Int32).toInt = -3) ∨ (0 ≤ w.toInt ∧ w.toInt < (i 5).toInt ∧ 0 ≤ w2.toInt ∧ w2.toInt < (i 5).toInt ∧ 0 ≤ s1.toInt ∧ s1.toInt ≤ 3 ∧ ¬ (c 63 w.toNatClampNeg).toInt = 0 ∧ ¬ (c 63 w2.toNatClampNeg).toInt = 0 ∧ (c 60 w.toNatClampNeg).toInt = s1.toInt ∧ (c 60 w2.toNatClampNeg).toInt = s1.toInt ∧ 0 ≤ n1.toInt ∧ 0 ≤ n2.toInt ∧ 0 ≤ n3.toInt ∧ n1.toInt + n3.toInt ≤ (c 61 w.toNatClampNeg).toInt ∧ n2.toInt + n3.toInt ≤ (c 61 w2.toNatClampNeg).toInt ∧ ((-1) : Int32).toInt = 1) from by have h50 : ((-1) : Int32).toInt = -1 := (by decide); omega)⟩
  · have f2 := fl_t hw1 c2
    refine lv_aload_n hx hb dX12_copy_8 rfl (lv_at hl 0 rfl) ?_
    refine lv_iload hx hb dX12_copy_9 (lv_at hl 4 rfl) ?_
    refine ro_calli (va_runV (As := [.int w2]) (rest := []) ⟨hx, hb, hml, hown, hts⟩ (s_X12_isObject l D H.size o a t i q c d w2 hI ) (cwV 1 hts gm_X12_copy_X12_isObject rfl rfl rfl (by decide +kernel) ⟨Nat.le_of_ble_eq_true rfl, Nat.le_of_ble_eq_true rfl⟩) (pA_V hK hP (ci := 12) (q0 := 0) rfl rfl) rfl rfl hl.1 rfl (lv_room (Nat.le_of_ble_eq_true rfl)) dX12_copy_11 ⟨Nat.le_of_ble_eq_true rfl, Nat.le_of_ble_eq_true rfl⟩) hS hA hP (fun r3 u3 H locs hw3 hP hS => ?_)
    have hw3 : r3 = if (0 ≤ w2.toInt ∧ w2.toInt ≤ (i 5).toInt - 1) then 1 else 0 := hw3
    refine lv_if_eq (tgt := 29) hx hb dX12_copy_14 (by decide) (fun c4 => ?_) (fun c4 => ?_)
    · have f4 := fl_f hw3 c4
      refine lv_iconst (v := (-1)) hx hb dX12_copy_29 (by decide) ?_
      exact rw_iret (i, q, c, d) hx hb hr hlocks hS (hK.sub (tys' := []) [] rfl) hP hD dX12_copy_30 ⟨trivial, hI, fr_w hfi (by decide), fr_w hfc (by decide), (show (¬ (0 ≤ w.toInt ∧ w.toInt < (i 5).toInt ∧ 0 ≤ w2.toInt ∧ w2.toInt < (i 5).toInt ∧ 0 ≤ s1.toInt ∧ s1.toInt ≤ 3) ∧ ((-1) : Int32).toInt = -1) ∨ (0 ≤ w.toInt ∧ w.toInt < (i 5).toInt ∧ 0 ≤ w2.toInt ∧ w2.toInt < (i 5).toInt ∧ 0 ≤ s1.toInt ∧ s1.toInt ≤ 3 ∧ ¬ (¬ (c 63 w.toNatClampNeg).toInt = 0 ∧ ¬ (c 63 w2.toNatClampNeg).toInt = 0 ∧ (c 60 w.toNatClampNeg).toInt = s1.toInt ∧ (c 60 w2.toNatClampNeg).toInt = s1.toInt ∧ 0 ≤ n1.toInt ∧ 0 ≤ n2.toInt ∧ 0 ≤ n3.toInt ∧ n1.toInt + n3.toInt ≤ (c 61 w.toNatClampNeg).toInt ∧ n2.toInt + n3.toInt ≤ (c 61 w2.toNatClampNeg).toInt) ∧ ((-1) : Int32).toInt = -3) ∨ (0 ≤ w.toInt ∧ w.toInt < (i 5).toInt ∧ 0 ≤ w2.toInt ∧ w2.toInt < (i 5).toInt ∧ 0 ≤ s1.toInt ∧ s1.toInt ≤ 3 ∧ ¬ (c 63 w.toNatClampNeg).toInt = 0 ∧ ¬ (c 63 w2.toNatClampNeg).toInt = 0 ∧ (c 60 w.toNatClampNeg).toInt = s1.toInt ∧ (c 60 w2.toNatClampNeg).toInt = s1.toInt ∧ 0 ≤ n1.toInt ∧ 0 ≤ n2.toInt ∧ 0 ≤ n3.toInt ∧ n1.toInt + n3.toInt ≤ (c 61 w.toNatClampNeg).toInt ∧ n2.toInt + n3.toInt ≤ (c 61 w2.toNatClampNeg).toInt ∧ ((-1) : Int32).toInt = 1) from by have h50 : ((-1) : Int32).toInt = -1 := (by decide); omega)⟩
    · have f4 := fl_t hw3 c4
      refine lv_iload_n hx hb dX12_copy_17 rfl (lv_at hl 2 rfl) ?_
      refine lv_i2l (v := s1.toInt64) hx hb dX12_copy_18 rfl ?_
      refine lv_lconst (v := 0) hx hb dX12_copy_19 (by decide) ?_
      refine lv_ldc2 (v := 3) hx hb hown (hts (.constantLong RX12 279 (3)) (List.mem_cons_of_mem _ (List.mem_append_left _ (List.mem_append_left _ (List.mem_of_getElem? (i := 9) rfl))))) dX12_copy_20 ?_
      have hPc := hP.sub (ws' := []) [] rfl
      have hKc := hK.sub (tys' := []) [] rfl
      refine ro_calli (va_runS (As := [.long s1.toInt64, .long 0, .long 3]) (rest := []) ⟨hx, hb, hml, hown, hts⟩ (c_X12_in l D H.size s1.toInt64 0 3 s1.toInt 0 3 ((Int32.toInt_toInt64 s1).trans rfl) (by decide) (by decide)) (va_cwS 3 hts gm_X12_copy_X12_in rfl rfl rfl (by decide +kernel) ⟨Nat.le_of_ble_eq_true rfl, Nat.le_of_ble_eq_true rfl⟩) (pA_S hKc hPc) rfl rfl hl.1 rfl (lv_room (Nat.le_of_ble_eq_true rfl)) dX12_copy_23 ⟨Nat.le_of_ble_eq_true rfl, Nat.le_of_ble_eq_true rfl⟩) hS hA hP (fun r5 u5 H locs hw5 hP hS => ?_)
      have hw5 : r5 = if (0 ≤ s1.toInt ∧ s1.toInt ≤ 3) then 1 else 0 := hw5
      refine lv_if_ne (tgt := 31) hx hb dX12_copy_26 (by decide) (fun c6 => ?_) (fun c6 => ?_)
      · have f6 := fl_t hw5 c6
        refine lv_aload_n hx hb dX12_copy_31 rfl (lv_at hl 0 rfl) ?_
        refine mget_63 hx hb hts (fun _ h => List.mem_cons_of_mem _ (List.mem_append_right _ h)) hown hK hP (hts (.fieldLink RX12 136 "TalePlayModel" "hasLine" "[Z") (List.mem_cons_of_mem _ (List.mem_append_left _ (List.mem_append_left _ (List.mem_of_getElem? (i := 10) rfl))))) dX12_copy_32 ?_
        refine lv_iload_n hx hb dX12_copy_35 rfl (lv_at hl 1 rfl) ?_
        refine mld_63 hx hb hK hP (vp_in_iff.mpr (by have h9 : w.toInt = w.toInt := rfl; omega)) dX12_copy_36 (fun x7 ex7 => ?_)
        have rx7 : 0 ≤ x7.toInt ∧ x7.toInt ≤ 1 := by rw [ex7]; exact hI.2 63 _
        have gx7 : (c 63 (w : Int32).toNatClampNeg).toInt = x7.toInt := by rw [ex7]
        refine lv_if_eq (tgt := 50) hx hb dX12_copy_37 (by decide) (fun c8 => ?_) (fun c8 => ?_)
        · have f8 := (ti_eq (a := x7.toInt) (b := 0) rfl (by decide)).mp c8
          refine lv_aload_n hx hb dX12_copy_50 rfl (lv_at hl 0 rfl) ?_
          refine mget_63 hx hb hts (fun _ h => List.mem_cons_of_mem _ (List.mem_append_right _ h)) hown hK hP (hts (.fieldLink RX12 136 "TalePlayModel" "hasLine" "[Z") (List.mem_cons_of_mem _ (List.mem_append_left _ (List.mem_append_left _ (List.mem_of_getElem? (i := 10) rfl))))) dX12_copy_51 ?_
          refine lv_iload hx hb dX12_copy_54 (lv_at hl 4 rfl) ?_
          refine mld_63 hx hb hK hP (vp_in_iff.mpr (by have h9 : w2.toInt = w2.toInt := rfl; omega)) dX12_copy_56 (fun x9 ex9 => ?_)
          have rx9 : 0 ≤ x9.toInt ∧ x9.toInt ≤ 1 := by rw [ex9]; exact hI.2 63 _
          have gx9 : (c 63 (w2 : Int32).toNatClampNeg).toInt = x9.toInt := by rw [ex9]
          refine lv_if_eq (tgt := 77) hx hb dX12_copy_57 (by decide) (fun c10 => ?_) (fun c10 => ?_)
          · have f10 := (ti_eq (a := x9.toInt) (b := 0) rfl (by decide)).mp c10
            refine lv_aload_n hx hb dX12_copy_77 rfl (lv_at hl 0 rfl) ?_
            refine mget_63 hx hb hts (fun _ h => List.mem_cons_of_mem _ (List.mem_append_right _ h)) hown hK hP (hts (.fieldLink RX12 136 "TalePlayModel" "hasLine" "[Z") (List.mem_cons_of_mem _ (List.mem_append_left _ (List.mem_append_left _ (List.mem_of_getElem? (i := 10) rfl))))) dX12_copy_78 ?_
            refine lv_iload_n hx hb dX12_copy_81 rfl (lv_at hl 1 rfl) ?_
            refine mld_63 hx hb hK hP (vp_in_iff.mpr (by have h9 : w.toInt = w.toInt := rfl; omega)) dX12_copy_82 (fun x11 ex11 => ?_)
            have rx11 : 0 ≤ x11.toInt ∧ x11.toInt ≤ 1 := by rw [ex11]; exact hI.2 63 _
            have gx11 : (c 63 (w : Int32).toNatClampNeg).toInt = x11.toInt := by rw [ex11]
            refine lv_if_eq (tgt := 96) hx hb dX12_copy_83 (by decide) (fun c12 => ?_) (fun c12 => ?_)
            · have f12 := (ti_eq (a := x11.toInt) (b := 0) rfl (by decide)).mp c12
              refine lv_aload_n hx hb dX12_copy_96 rfl (lv_at hl 0 rfl) ?_
              refine lv_iconst (v := 1) hx hb dX12_copy_97 (by decide) ?_
              refine al_calli (va_runV (As := [.int 1]) (rest := []) ⟨hx, hb, hml, hown, hts⟩ (s_X12_meets l D H.size o a t i q c d 1 hI (show 1 ≤ 1 ∧ 1 ≤ 6 from by have h90 : (1 : Int32).toInt = 1 := (by decide); omega)) (cwV 1 hts gm_X12_copy_X12_meets rfl rfl rfl (by decide +kernel) ⟨Nat.le_of_ble_eq_true rfl, Nat.le_of_ble_eq_true rfl⟩) (pB_V hK hP hD (ci := 12) (q0 := 0) rfl rfl) rfl rfl hl.1 rfl (lv_room (Nat.le_of_ble_eq_true rfl)) dX12_copy_98 ⟨Nat.le_of_ble_eq_true rfl, Nat.le_of_ble_eq_true rfl⟩) hS hA hP hD (fun r13 u13 H locs hw13 hP hD hS => ?_)
              obtain ⟨i13, q13, c13, d13⟩ := u13
              have hw13 : r13 = (-3) ∧ mInv i13 c13 ∧ (∀ k, k ∉ ([0] : List Nat) → i13 k = i k) ∧ (∀ k, k ∉ ([1] : List Nat) → c13 k = c k) := hw13
              obtain ⟨hw13, hI, hei13, hec13⟩ := hw13
              have hfi : ∀ k, k ∉ ([0] : List Nat) → i13 k = i k := fr_z hfi hei13 (by decide) (by decide)
              have hfc : ∀ k, k ∉ ([1] : List Nat) → c13 k = c k := fr_z hfc hec13 (by decide) (by decide)
              have hP : va_P D vwCl (mW o a t i13 q13 c13 d13) H := hP
              have hD : va_D A (mW o a t i13 q13 c13 d13) := hD
              have hw13 : r13 = (-3) := hw13
              subst hw13
              exact rw_iret (i13, q13, c13, d13) hx hb hr hlocks hS (hK.sub (tys' := []) [] rfl) hP hD dX12_copy_101 ⟨trivial, hI, fr_w hfi (by decide), fr_w hfc (by decide), (show (¬ (0 ≤ w.toInt ∧ w.toInt < (i 5).toInt ∧ 0 ≤ w2.toInt ∧ w2.toInt < (i 5).toInt ∧ 0 ≤ s1.toInt ∧ s1.toInt ≤ 3) ∧ ((-3) : Int32).toInt = -1) ∨ (0 ≤ w.toInt ∧ w.toInt < (i 5).toInt ∧ 0 ≤ w2.toInt ∧ w2.toInt < (i 5).toInt ∧ 0 ≤ s1.toInt ∧ s1.toInt ≤ 3 ∧ ¬ (¬ (c 63 w.toNatClampNeg).toInt = 0 ∧ ¬ (c 63 w2.toNatClampNeg).toInt = 0 ∧ (c 60 w.toNatClampNeg).toInt = s1.toInt ∧ (c 60 w2.toNatClampNeg).toInt = s1.toInt ∧ 0 ≤ n1.toInt ∧ 0 ≤ n2.toInt ∧ 0 ≤ n3.toInt ∧ n1.toInt + n3.toInt ≤ (c 61 w.toNatClampNeg).toInt ∧ n2.toInt + n3.toInt ≤ (c 61 w2.toNatClampNeg).toInt) ∧ ((-3) : Int32).toInt = -3) ∨ (0 ≤ w.toInt ∧ w.toInt < (i 5).toInt ∧ 0 ≤ w2.toInt ∧ w2.toInt < (i 5).toInt ∧ 0 ≤ s1.toInt ∧ s1.toInt ≤ 3 ∧ ¬ (c 63 w.toNatClampNeg).toInt = 0 ∧ ¬ (c 63 w2.toNatClampNeg).toInt = 0 ∧ (c 60 w.toNatClampNeg).toInt = s1.toInt ∧ (c 60 w2.toNatClampNeg).toInt = s1.toInt ∧ 0 ≤ n1.toInt ∧ 0 ≤ n2.toInt ∧ 0 ≤ n3.toInt ∧ n1.toInt + n3.toInt ≤ (c 61 w.toNatClampNeg).toInt ∧ n2.toInt + n3.toInt ≤ (c 61 w2.toNatClampNeg).toInt ∧ ((-3) : Int32).toInt = 1) from by have h50 : ((-3) : Int32).toInt = -3 := (by decide); omega)⟩
            · have f12 := mt (ti_eq (a := x11.toInt) (b := 0) rfl (by decide)).mpr c12
              refine lv_aload_n hx hb dX12_copy_86 rfl (lv_at hl 0 rfl) ?_
              refine mget_63 hx hb hts (fun _ h => List.mem_cons_of_mem _ (List.mem_append_right _ h)) hown hK hP (hts (.fieldLink RX12 136 "TalePlayModel" "hasLine" "[Z") (List.mem_cons_of_mem _ (List.mem_append_left _ (List.mem_append_left _ (List.mem_of_getElem? (i := 10) rfl))))) dX12_copy_87 ?_
              refine lv_iload hx hb dX12_copy_90 (lv_at hl 4 rfl) ?_
              refine mld_63 hx hb hK hP (vp_in_iff.mpr (by have h9 : w2.toInt = w2.toInt := rfl; omega)) dX12_copy_92 (fun x14 ex14 => ?_)
              have rx14 : 0 ≤ x14.toInt ∧ x14.toInt ≤ 1 := by rw [ex14]; exact hI.2 63 _
              have gx14 : (c 63 (w2 : Int32).toNatClampNeg).toInt = x14.toInt := by rw [ex14]
              refine lv_if_ne (tgt := 102) hx hb dX12_copy_93 (by decide) (fun c15 => ?_) (fun c15 => ?_)
              · have f15 := mt (ti_eq (a := x14.toInt) (b := 0) rfl (by decide)).mpr c15
                refine lv_iload_n hx hb dX12_copy_102 rfl (lv_at hl 3 rfl) ?_
                refine lv_if_lt (tgt := 152) hx hb dX12_copy_103 (by decide) (fun c16 => ?_) (fun c16 => ?_)
                · have f16 := (ti_lt (a := n1.toInt) (b := 0) rfl (by decide)).mp c16
                  refine lv_aload_n hx hb dX12_copy_152 rfl (lv_at hl 0 rfl) ?_
                  refine lv_iconst (v := 2) hx hb dX12_copy_153 (by decide) ?_
                  refine al_calli (va_runV (As := [.int 2]) (rest := []) ⟨hx, hb, hml, hown, hts⟩ (s_X12_meets l D H.size o a t i q c d 2 hI (show 1 ≤ 2 ∧ 2 ≤ 6 from by have h90 : (2 : Int32).toInt = 2 := (by decide); omega)) (cwV 1 hts gm_X12_copy_X12_meets rfl rfl rfl (by decide +kernel) ⟨Nat.le_of_ble_eq_true rfl, Nat.le_of_ble_eq_true rfl⟩) (pB_V hK hP hD (ci := 12) (q0 := 0) rfl rfl) rfl rfl hl.1 rfl (lv_room (Nat.le_of_ble_eq_true rfl)) dX12_copy_154 ⟨Nat.le_of_ble_eq_true rfl, Nat.le_of_ble_eq_true rfl⟩) hS hA hP hD (fun r17 u17 H locs hw17 hP hD hS => ?_)
                  obtain ⟨i17, q17, c17, d17⟩ := u17
                  have hw17 : r17 = (-3) ∧ mInv i17 c17 ∧ (∀ k, k ∉ ([0] : List Nat) → i17 k = i k) ∧ (∀ k, k ∉ ([1] : List Nat) → c17 k = c k) := hw17
                  obtain ⟨hw17, hI, hei17, hec17⟩ := hw17
                  have hfi : ∀ k, k ∉ ([0] : List Nat) → i17 k = i k := fr_z hfi hei17 (by decide) (by decide)
                  have hfc : ∀ k, k ∉ ([1] : List Nat) → c17 k = c k := fr_z hfc hec17 (by decide) (by decide)
                  have hP : va_P D vwCl (mW o a t i17 q17 c17 d17) H := hP
                  have hD : va_D A (mW o a t i17 q17 c17 d17) := hD
                  have hw17 : r17 = (-3) := hw17
                  subst hw17
                  exact rw_iret (i17, q17, c17, d17) hx hb hr hlocks hS (hK.sub (tys' := []) [] rfl) hP hD dX12_copy_157 ⟨trivial, hI, fr_w hfi (by decide), fr_w hfc (by decide), (show (¬ (0 ≤ w.toInt ∧ w.toInt < (i 5).toInt ∧ 0 ≤ w2.toInt ∧ w2.toInt < (i 5).toInt ∧ 0 ≤ s1.toInt ∧ s1.toInt ≤ 3) ∧ ((-3) : Int32).toInt = -1) ∨ (0 ≤ w.toInt ∧ w.toInt < (i 5).toInt ∧ 0 ≤ w2.toInt ∧ w2.toInt < (i 5).toInt ∧ 0 ≤ s1.toInt ∧ s1.toInt ≤ 3 ∧ ¬ (¬ (c 63 w.toNatClampNeg).toInt = 0 ∧ ¬ (c 63 w2.toNatClampNeg).toInt = 0 ∧ (c 60 w.toNatClampNeg).toInt = s1.toInt ∧ (c 60 w2.toNatClampNeg).toInt = s1.toInt ∧ 0 ≤ n1.toInt ∧ 0 ≤ n2.toInt ∧ 0 ≤ n3.toInt ∧ n1.toInt + n3.toInt ≤ (c 61 w.toNatClampNeg).toInt ∧ n2.toInt + n3.toInt ≤ (c 61 w2.toNatClampNeg).toInt) ∧ ((-3) : Int32).toInt = -3) ∨ (0 ≤ w.toInt ∧ w.toInt < (i 5).toInt ∧ 0 ≤ w2.toInt ∧ w2.toInt < (i 5).toInt ∧ 0 ≤ s1.toInt ∧ s1.toInt ≤ 3 ∧ ¬ (c 63 w.toNatClampNeg).toInt = 0 ∧ ¬ (c 63 w2.toNatClampNeg).toInt = 0 ∧ (c 60 w.toNatClampNeg).toInt = s1.toInt ∧ (c 60 w2.toNatClampNeg).toInt = s1.toInt ∧ 0 ≤ n1.toInt ∧ 0 ≤ n2.toInt ∧ 0 ≤ n3.toInt ∧ n1.toInt + n3.toInt ≤ (c 61 w.toNatClampNeg).toInt ∧ n2.toInt + n3.toInt ≤ (c 61 w2.toNatClampNeg).toInt ∧ ((-3) : Int32).toInt = 1) from by have h50 : ((-3) : Int32).toInt = -3 := (by decide); omega)⟩
                · have f16 := mt (ti_lt (a := n1.toInt) (b := 0) rfl (by decide)).mpr c16
                  refine lv_iload hx hb dX12_copy_106 (lv_at hl 5 rfl) ?_
                  refine lv_if_lt (tgt := 152) hx hb dX12_copy_108 (by decide) (fun c18 => ?_) (fun c18 => ?_)
                  · have f18 := (ti_lt (a := n2.toInt) (b := 0) rfl (by decide)).mp c18
                    refine lv_aload_n hx hb dX12_copy_152 rfl (lv_at hl 0 rfl) ?_
                    refine lv_iconst (v := 2) hx hb dX12_copy_153 (by decide) ?_
                    refine al_calli (va_runV (As := [.int 2]) (rest := []) ⟨hx, hb, hml, hown, hts⟩ (s_X12_meets l D H.size o a t i q c d 2 hI (show 1 ≤ 2 ∧ 2 ≤ 6 from by have h90 : (2 : Int32).toInt = 2 := (by decide); omega)) (cwV 1 hts gm_X12_copy_X12_meets rfl rfl rfl (by decide +kernel) ⟨Nat.le_of_ble_eq_true rfl, Nat.le_of_ble_eq_true rfl⟩) (pB_V hK hP hD (ci := 12) (q0 := 0) rfl rfl) rfl rfl hl.1 rfl (lv_room (Nat.le_of_ble_eq_true rfl)) dX12_copy_154 ⟨Nat.le_of_ble_eq_true rfl, Nat.le_of_ble_eq_true rfl⟩) hS hA hP hD (fun r19 u19 H locs hw19 hP hD hS => ?_)
                    obtain ⟨i19, q19, c19, d19⟩ := u19
                    have hw19 : r19 = (-3) ∧ mInv i19 c19 ∧ (∀ k, k ∉ ([0] : List Nat) → i19 k = i k) ∧ (∀ k, k ∉ ([1] : List Nat) → c19 k = c k) := hw19
                    obtain ⟨hw19, hI, hei19, hec19⟩ := hw19
                    have hfi : ∀ k, k ∉ ([0] : List Nat) → i19 k = i k := fr_z hfi hei19 (by decide) (by decide)
                    have hfc : ∀ k, k ∉ ([1] : List Nat) → c19 k = c k := fr_z hfc hec19 (by decide) (by decide)
                    have hP : va_P D vwCl (mW o a t i19 q19 c19 d19) H := hP
                    have hD : va_D A (mW o a t i19 q19 c19 d19) := hD
                    have hw19 : r19 = (-3) := hw19
                    subst hw19
                    exact rw_iret (i19, q19, c19, d19) hx hb hr hlocks hS (hK.sub (tys' := []) [] rfl) hP hD dX12_copy_157 ⟨trivial, hI, fr_w hfi (by decide), fr_w hfc (by decide), (show (¬ (0 ≤ w.toInt ∧ w.toInt < (i 5).toInt ∧ 0 ≤ w2.toInt ∧ w2.toInt < (i 5).toInt ∧ 0 ≤ s1.toInt ∧ s1.toInt ≤ 3) ∧ ((-3) : Int32).toInt = -1) ∨ (0 ≤ w.toInt ∧ w.toInt < (i 5).toInt ∧ 0 ≤ w2.toInt ∧ w2.toInt < (i 5).toInt ∧ 0 ≤ s1.toInt ∧ s1.toInt ≤ 3 ∧ ¬ (¬ (c 63 w.toNatClampNeg).toInt = 0 ∧ ¬ (c 63 w2.toNatClampNeg).toInt = 0 ∧ (c 60 w.toNatClampNeg).toInt = s1.toInt ∧ (c 60 w2.toNatClampNeg).toInt = s1.toInt ∧ 0 ≤ n1.toInt ∧ 0 ≤ n2.toInt ∧ 0 ≤ n3.toInt ∧ n1.toInt + n3.toInt ≤ (c 61 w.toNatClampNeg).toInt ∧ n2.toInt + n3.toInt ≤ (c 61 w2.toNatClampNeg).toInt) ∧ ((-3) : Int32).toInt = -3) ∨ (0 ≤ w.toInt ∧ w.toInt < (i 5).toInt ∧ 0 ≤ w2.toInt ∧ w2.toInt < (i 5).toInt ∧ 0 ≤ s1.toInt ∧ s1.toInt ≤ 3 ∧ ¬ (c 63 w.toNatClampNeg).toInt = 0 ∧ ¬ (c 63 w2.toNatClampNeg).toInt = 0 ∧ (c 60 w.toNatClampNeg).toInt = s1.toInt ∧ (c 60 w2.toNatClampNeg).toInt = s1.toInt ∧ 0 ≤ n1.toInt ∧ 0 ≤ n2.toInt ∧ 0 ≤ n3.toInt ∧ n1.toInt + n3.toInt ≤ (c 61 w.toNatClampNeg).toInt ∧ n2.toInt + n3.toInt ≤ (c 61 w2.toNatClampNeg).toInt ∧ ((-3) : Int32).toInt = 1) from by have h50 : ((-3) : Int32).toInt = -3 := (by decide); omega)⟩
                  · have f18 := mt (ti_lt (a := n2.toInt) (b := 0) rfl (by decide)).mpr c18
                    refine lv_iload hx hb dX12_copy_111 (lv_at hl 6 rfl) ?_
                    refine lv_if_lt (tgt := 152) hx hb dX12_copy_113 (by decide) (fun c20 => ?_) (fun c20 => ?_)
                    · have f20 := (ti_lt (a := n3.toInt) (b := 0) rfl (by decide)).mp c20
                      refine lv_aload_n hx hb dX12_copy_152 rfl (lv_at hl 0 rfl) ?_
                      refine lv_iconst (v := 2) hx hb dX12_copy_153 (by decide) ?_
                      refine al_calli (va_runV (As := [.int 2]) (rest := []) ⟨hx, hb, hml, hown, hts⟩ (s_X12_meets l D H.size o a t i q c d 2 hI (show 1 ≤ 2 ∧ 2 ≤ 6 from by have h90 : (2 : Int32).toInt = 2 := (by decide); omega)) (cwV 1 hts gm_X12_copy_X12_meets rfl rfl rfl (by decide +kernel) ⟨Nat.le_of_ble_eq_true rfl, Nat.le_of_ble_eq_true rfl⟩) (pB_V hK hP hD (ci := 12) (q0 := 0) rfl rfl) rfl rfl hl.1 rfl (lv_room (Nat.le_of_ble_eq_true rfl)) dX12_copy_154 ⟨Nat.le_of_ble_eq_true rfl, Nat.le_of_ble_eq_true rfl⟩) hS hA hP hD (fun r21 u21 H locs hw21 hP hD hS => ?_)
                      obtain ⟨i21, q21, c21, d21⟩ := u21
                      have hw21 : r21 = (-3) ∧ mInv i21 c21 ∧ (∀ k, k ∉ ([0] : List Nat) → i21 k = i k) ∧ (∀ k, k ∉ ([1] : List Nat) → c21 k = c k) := hw21
                      obtain ⟨hw21, hI, hei21, hec21⟩ := hw21
                      have hfi : ∀ k, k ∉ ([0] : List Nat) → i21 k = i k := fr_z hfi hei21 (by decide) (by decide)
                      have hfc : ∀ k, k ∉ ([1] : List Nat) → c21 k = c k := fr_z hfc hec21 (by decide) (by decide)
                      have hP : va_P D vwCl (mW o a t i21 q21 c21 d21) H := hP
                      have hD : va_D A (mW o a t i21 q21 c21 d21) := hD
                      have hw21 : r21 = (-3) := hw21
                      subst hw21
                      exact rw_iret (i21, q21, c21, d21) hx hb hr hlocks hS (hK.sub (tys' := []) [] rfl) hP hD dX12_copy_157 ⟨trivial, hI, fr_w hfi (by decide), fr_w hfc (by decide), (show (¬ (0 ≤ w.toInt ∧ w.toInt < (i 5).toInt ∧ 0 ≤ w2.toInt ∧ w2.toInt < (i 5).toInt ∧ 0 ≤ s1.toInt ∧ s1.toInt ≤ 3) ∧ ((-3) : Int32).toInt = -1) ∨ (0 ≤ w.toInt ∧ w.toInt < (i 5).toInt ∧ 0 ≤ w2.toInt ∧ w2.toInt < (i 5).toInt ∧ 0 ≤ s1.toInt ∧ s1.toInt ≤ 3 ∧ ¬ (¬ (c 63 w.toNatClampNeg).toInt = 0 ∧ ¬ (c 63 w2.toNatClampNeg).toInt = 0 ∧ (c 60 w.toNatClampNeg).toInt = s1.toInt ∧ (c 60 w2.toNatClampNeg).toInt = s1.toInt ∧ 0 ≤ n1.toInt ∧ 0 ≤ n2.toInt ∧ 0 ≤ n3.toInt ∧ n1.toInt + n3.toInt ≤ (c 61 w.toNatClampNeg).toInt ∧ n2.toInt + n3.toInt ≤ (c 61 w2.toNatClampNeg).toInt) ∧ ((-3) : Int32).toInt = -3) ∨ (0 ≤ w.toInt ∧ w.toInt < (i 5).toInt ∧ 0 ≤ w2.toInt ∧ w2.toInt < (i 5).toInt ∧ 0 ≤ s1.toInt ∧ s1.toInt ≤ 3 ∧ ¬ (c 63 w.toNatClampNeg).toInt = 0 ∧ ¬ (c 63 w2.toNatClampNeg).toInt = 0 ∧ (c 60 w.toNatClampNeg).toInt = s1.toInt ∧ (c 60 w2.toNatClampNeg).toInt = s1.toInt ∧ 0 ≤ n1.toInt ∧ 0 ≤ n2.toInt ∧ 0 ≤ n3.toInt ∧ n1.toInt + n3.toInt ≤ (c 61 w.toNatClampNeg).toInt ∧ n2.toInt + n3.toInt ≤ (c 61 w2.toNatClampNeg).toInt ∧ ((-3) : Int32).toInt = 1) from by have h50 : ((-3) : Int32).toInt = -3 := (by decide); omega)⟩
                    · have f20 := mt (ti_lt (a := n3.toInt) (b := 0) rfl (by decide)).mpr c20
                      refine lv_iload_n hx hb dX12_copy_116 rfl (lv_at hl 3 rfl) ?_
                      refine lv_i2l (v := n1.toInt64) hx hb dX12_copy_117 rfl ?_
                      refine lv_iload hx hb dX12_copy_118 (lv_at hl 6 rfl) ?_
                      refine lv_i2l (v := n3.toInt64) hx hb dX12_copy_120 rfl ?_
                      refine lv_ladd hx hb dX12_copy_121 ?_
                      refine lv_topl (fun x22 ex22 => ?_)
                      have ib22_n1 := i32b n1
                      have ib22_n3 := i32b n3
                      have tx22 := ti_addl (a := n1.toInt) (b := n3.toInt) ex22 ((Int32.toInt_toInt64 n1).trans rfl) ((Int32.toInt_toInt64 n3).trans rfl) (by omega) (by omega)
                      refine lv_aload_n hx hb dX12_copy_122 rfl (lv_at hl 0 rfl) ?_
                      refine mget_61 hx hb hts (fun _ h => List.mem_cons_of_mem _ (List.mem_append_right _ h)) hown hK hP (hts (.fieldLink RX12 129 "TalePlayModel" "lineMany" "[I") (List.mem_cons_of_mem _ (List.mem_append_left _ (List.mem_append_right _ (List.mem_of_getElem? (i := 1) rfl))))) dX12_copy_123 ?_
                      refine lv_iload_n hx hb dX12_copy_126 rfl (lv_at hl 1 rfl) ?_
                      refine mld_61 hx hb hK hP (vp_in_iff.mpr (by have h9 : w.toInt = w.toInt := rfl; omega)) dX12_copy_127 (fun x23 ex23 => ?_)
                      have rx23 : 0 ≤ x23.toInt ∧ x23.toInt ≤ 12 := by rw [ex23]; exact hI.2 61 _
                      have gx23 : (c 61 (w : Int32).toNatClampNeg).toInt = x23.toInt := by rw [ex23]
                      refine lv_i2l (v := x23.toInt64) hx hb dX12_copy_128 rfl ?_
                      refine W.lcmp hx hb dX12_copy_129 ?_
                      refine lv_if_gt (tgt := 152) hx hb dX12_copy_130 (by decide) (fun c24 => ?_) (fun c24 => ?_)
                      · have f24 := (lc_gt (a := (n1.toInt + n3.toInt)) (b := x23.toInt) tx22 ((Int32.toInt_toInt64 x23).trans rfl)).mp c24
                        refine lv_aload_n hx hb dX12_copy_152 rfl (lv_at hl 0 rfl) ?_
                        refine lv_iconst (v := 2) hx hb dX12_copy_153 (by decide) ?_
                        refine al_calli (va_runV (As := [.int 2]) (rest := []) ⟨hx, hb, hml, hown, hts⟩ (s_X12_meets l D H.size o a t i q c d 2 hI (show 1 ≤ 2 ∧ 2 ≤ 6 from by have h90 : (2 : Int32).toInt = 2 := (by decide); omega)) (cwV 1 hts gm_X12_copy_X12_meets rfl rfl rfl (by decide +kernel) ⟨Nat.le_of_ble_eq_true rfl, Nat.le_of_ble_eq_true rfl⟩) (pB_V hK hP hD (ci := 12) (q0 := 0) rfl rfl) rfl rfl hl.1 rfl (lv_room (Nat.le_of_ble_eq_true rfl)) dX12_copy_154 ⟨Nat.le_of_ble_eq_true rfl, Nat.le_of_ble_eq_true rfl⟩) hS hA hP hD (fun r25 u25 H locs hw25 hP hD hS => ?_)
                        obtain ⟨i25, q25, c25, d25⟩ := u25
                        have hw25 : r25 = (-3) ∧ mInv i25 c25 ∧ (∀ k, k ∉ ([0] : List Nat) → i25 k = i k) ∧ (∀ k, k ∉ ([1] : List Nat) → c25 k = c k) := hw25
                        obtain ⟨hw25, hI, hei25, hec25⟩ := hw25
                        have hfi : ∀ k, k ∉ ([0] : List Nat) → i25 k = i k := fr_z hfi hei25 (by decide) (by decide)
                        have hfc : ∀ k, k ∉ ([1] : List Nat) → c25 k = c k := fr_z hfc hec25 (by decide) (by decide)
                        have hP : va_P D vwCl (mW o a t i25 q25 c25 d25) H := hP
                        have hD : va_D A (mW o a t i25 q25 c25 d25) := hD
                        have hw25 : r25 = (-3) := hw25
                        subst hw25
                        exact rw_iret (i25, q25, c25, d25) hx hb hr hlocks hS (hK.sub (tys' := []) [] rfl) hP hD dX12_copy_157 ⟨trivial, hI, fr_w hfi (by decide), fr_w hfc (by decide), (show (¬ (0 ≤ w.toInt ∧ w.toInt < (i 5).toInt ∧ 0 ≤ w2.toInt ∧ w2.toInt < (i 5).toInt ∧ 0 ≤ s1.toInt ∧ s1.toInt ≤ 3) ∧ ((-3) : Int32).toInt = -1) ∨ (0 ≤ w.toInt ∧ w.toInt < (i 5).toInt ∧ 0 ≤ w2.toInt ∧ w2.toInt < (i 5).toInt ∧ 0 ≤ s1.toInt ∧ s1.toInt ≤ 3 ∧ ¬ (¬ (c 63 w.toNatClampNeg).toInt = 0 ∧ ¬ (c 63 w2.toNatClampNeg).toInt = 0 ∧ (c 60 w.toNatClampNeg).toInt = s1.toInt ∧ (c 60 w2.toNatClampNeg).toInt = s1.toInt ∧ 0 ≤ n1.toInt ∧ 0 ≤ n2.toInt ∧ 0 ≤ n3.toInt ∧ n1.toInt + n3.toInt ≤ (c 61 w.toNatClampNeg).toInt ∧ n2.toInt + n3.toInt ≤ (c 61 w2.toNatClampNeg).toInt) ∧ ((-3) : Int32).toInt = -3) ∨ (0 ≤ w.toInt ∧ w.toInt < (i 5).toInt ∧ 0 ≤ w2.toInt ∧ w2.toInt < (i 5).toInt ∧ 0 ≤ s1.toInt ∧ s1.toInt ≤ 3 ∧ ¬ (c 63 w.toNatClampNeg).toInt = 0 ∧ ¬ (c 63 w2.toNatClampNeg).toInt = 0 ∧ (c 60 w.toNatClampNeg).toInt = s1.toInt ∧ (c 60 w2.toNatClampNeg).toInt = s1.toInt ∧ 0 ≤ n1.toInt ∧ 0 ≤ n2.toInt ∧ 0 ≤ n3.toInt ∧ n1.toInt + n3.toInt ≤ (c 61 w.toNatClampNeg).toInt ∧ n2.toInt + n3.toInt ≤ (c 61 w2.toNatClampNeg).toInt ∧ ((-3) : Int32).toInt = 1) from by have h50 : ((-3) : Int32).toInt = -3 := (by decide); omega)⟩
                      · have f24 := mt (lc_gt (a := (n1.toInt + n3.toInt)) (b := x23.toInt) tx22 ((Int32.toInt_toInt64 x23).trans rfl)).mpr c24
                        refine lv_iload hx hb dX12_copy_133 (lv_at hl 5 rfl) ?_
                        refine lv_i2l (v := n2.toInt64) hx hb dX12_copy_135 rfl ?_
                        refine lv_iload hx hb dX12_copy_136 (lv_at hl 6 rfl) ?_
                        refine lv_i2l (v := n3.toInt64) hx hb dX12_copy_138 rfl ?_
                        refine lv_ladd hx hb dX12_copy_139 ?_
                        refine lv_topl (fun x26 ex26 => ?_)
                        have ib26_n2 := i32b n2
                        have ib26_n3 := i32b n3
                        have tx26 := ti_addl (a := n2.toInt) (b := n3.toInt) ex26 ((Int32.toInt_toInt64 n2).trans rfl) ((Int32.toInt_toInt64 n3).trans rfl) (by omega) (by omega)
                        refine lv_aload_n hx hb dX12_copy_140 rfl (lv_at hl 0 rfl) ?_
                        refine mget_61 hx hb hts (fun _ h => List.mem_cons_of_mem _ (List.mem_append_right _ h)) hown hK hP (hts (.fieldLink RX12 129 "TalePlayModel" "lineMany" "[I") (List.mem_cons_of_mem _ (List.mem_append_left _ (List.mem_append_right _ (List.mem_of_getElem? (i := 1) rfl))))) dX12_copy_141 ?_
                        refine lv_iload hx hb dX12_copy_144 (lv_at hl 4 rfl) ?_
                        refine mld_61 hx hb hK hP (vp_in_iff.mpr (by have h9 : w2.toInt = w2.toInt := rfl; omega)) dX12_copy_146 (fun x27 ex27 => ?_)
                        have rx27 : 0 ≤ x27.toInt ∧ x27.toInt ≤ 12 := by rw [ex27]; exact hI.2 61 _
                        have gx27 : (c 61 (w2 : Int32).toNatClampNeg).toInt = x27.toInt := by rw [ex27]
                        refine lv_i2l (v := x27.toInt64) hx hb dX12_copy_147 rfl ?_
                        refine W.lcmp hx hb dX12_copy_148 ?_
                        refine lv_if_le (tgt := 158) hx hb dX12_copy_149 (by decide) (fun c28 => ?_) (fun c28 => ?_)
                        · have f28 := (lc_le (a := (n2.toInt + n3.toInt)) (b := x27.toInt) tx26 ((Int32.toInt_toInt64 x27).trans rfl)).mp c28
                          refine lv_iconst (v := 0) hx hb dX12_copy_158 (by decide) ?_
                          refine lv_istore (lv' := [(7, .int 0), (0, .ref o), (1, .int w), (2, .int s1), (3, .int n1), (4, .int w2), (5, .int n2), (6, .int n3)]) hx hb dX12_copy_159 hl (by decide) rfl (fun ls hl => ?_)
                          have lp29 : ∀ (fu : Nat) (i29 : Nat → Int32) (q29 : Int64) (c29 : Nat → Nat → Int32) (d29 : Nat → Nat → Int64) (y29_7 : Int32), mInv i29 c29 → (∀ k, k ∉ ([] : List Nat) → i29 k = i k) → (∀ k, k ∉ ([] : List Nat) → c29 k = c k) → (0 ≤ y29_7.toInt ∧ y29_7.toInt ≤ 12) → (12 - y29_7.toInt).toNat < fu → ∀ (H : Heap) (locs : List Loc) (ls : Array Slot), va_P D vwCl (mW o a t i29 q29 c29 d29) H → va_D A (mW o a t i29 q29 c29 d29) → va_S A s.heap H locs → lv_has ls 8 [(7, .int y29_7), (0, .ref o), (1, .int w), (2, .int s1), (3, .int n1), (4, .int w2), (5, .int n2), (6, .int n3)] → W p l e (headSpec wm_X12_copy ({ frames := 2, cells := 0, slots := 0, locals := 46 })).room s m ([.ref o, .int w, .int s1, .int n1, .int w2, .int n2, .int n3] : List Value).toArray below meth cd H locs 0 0 (MQ below (va_Qi (fun (r : Int32) (u : MS) => True ∧ mInv u.1 u.2.2.1 ∧ (∀ k, k ∉ ([0] : List Nat) → u.1 k = i k) ∧ (∀ k, k ∉ ([1] : List Nat) → u.2.2.1 k = c k) ∧ ((¬ (0 ≤ w.toInt ∧ w.toInt < (i 5).toInt ∧ 0 ≤ w2.toInt ∧ w2.toInt < (i 5).toInt ∧ 0 ≤ s1.toInt ∧ s1.toInt ≤ 3) ∧ r.toInt = -1) ∨ (0 ≤ w.toInt ∧ w.toInt < (i 5).toInt ∧ 0 ≤ w2.toInt ∧ w2.toInt < (i 5).toInt ∧ 0 ≤ s1.toInt ∧ s1.toInt ≤ 3 ∧ ¬ (¬ (c 63 w.toNatClampNeg).toInt = 0 ∧ ¬ (c 63 w2.toNatClampNeg).toInt = 0 ∧ (c 60 w.toNatClampNeg).toInt = s1.toInt ∧ (c 60 w2.toNatClampNeg).toInt = s1.toInt ∧ 0 ≤ n1.toInt ∧ 0 ≤ n2.toInt ∧ 0 ≤ n3.toInt ∧ n1.toInt + n3.toInt ≤ (c 61 w.toNatClampNeg).toInt ∧ n2.toInt + n3.toInt ≤ (c 61 w2.toNatClampNeg).toInt) ∧ r.toInt = -3) ∨ (0 ≤ w.toInt ∧ w.toInt < (i 5).toInt ∧ 0 ≤ w2.toInt ∧ w2.toInt < (i 5).toInt ∧ 0 ≤ s1.toInt ∧ s1.toInt ≤ 3 ∧ ¬ (c 63 w.toNatClampNeg).toInt = 0 ∧ ¬ (c 63 w2.toNatClampNeg).toInt = 0 ∧ (c 60 w.toNatClampNeg).toInt = s1.toInt ∧ (c 60 w2.toNatClampNeg).toInt = s1.toInt ∧ 0 ≤ n1.toInt ∧ 0 ≤ n2.toInt ∧ 0 ≤ n3.toInt ∧ n1.toInt + n3.toInt ≤ (c 61 w.toNatClampNeg).toInt ∧ n2.toInt + n3.toInt ≤ (c 61 w2.toNatClampNeg).toInt ∧ r.toInt = 1))) (oC D A (fun u : MS => mW o a t u.1 u.2.1 u.2.2.1 u.2.2.2) (fun _ => [])) A) ([.ref o, .int w, .int s1, .int n1, .int w2, .int n2, .int n3] : List Value).toArray s 0 0 A) (F0 m 161 ls []) := by
                            intro fu
                            induction fu with
                            | zero => intro i29 q29 c29 d29 y29_7 hI hfi hfc hy29_7 hm; exact absurd hm (Nat.not_lt_zero _)
                            | succ fu ih =>
                              intro i29 q29 c29 d29 y29_7 hI hfi hfc hy29_7 hm H locs ls hP hD hS hl
                              have ih29 := ih
                              refine lv_iload hx hb dX12_copy_161 (lv_at hl 0 rfl) ?_
                              refine lv_iload hx hb dX12_copy_163 (lv_at hl 7 rfl) ?_
                              refine lv_icmp_ge (tgt := 195) hx hb dX12_copy_165 (by decide) (fun c30 => ?_) (fun c30 => ?_)
                              · have f30 := (ti_le (a := n3.toInt) (b := y29_7.toInt) rfl rfl).mp c30
                                refine lv_iconst (v := 0) hx hb dX12_copy_195 (by decide) ?_
                                refine lv_istore (lv' := [(7, .int 0), (0, .ref o), (1, .int w), (2, .int s1), (3, .int n1), (4, .int w2), (5, .int n2), (6, .int n3)]) hx hb dX12_copy_196 hl (by decide) rfl (fun ls hl => ?_)
                                have lp31 : ∀ (fu : Nat) (i31 : Nat → Int32) (q31 : Int64) (c31 : Nat → Nat → Int32) (d31 : Nat → Nat → Int64) (y31_7 : Int32), mInv i31 c31 → (∀ k, k ∉ ([] : List Nat) → i31 k = i k) → (∀ k, k ∉ ([] : List Nat) → c31 k = c k) → (0 ≤ y31_7.toInt ∧ y31_7.toInt ≤ 12) → (12 - y31_7.toInt).toNat < fu → ∀ (H : Heap) (locs : List Loc) (ls : Array Slot), va_P D vwCl (mW o a t i31 q31 c31 d31) H → va_D A (mW o a t i31 q31 c31 d31) → va_S A s.heap H locs → lv_has ls 8 [(7, .int y31_7), (0, .ref o), (1, .int w), (2, .int s1), (3, .int n1), (4, .int w2), (5, .int n2), (6, .int n3)] → W p l e (headSpec wm_X12_copy ({ frames := 2, cells := 0, slots := 0, locals := 46 })).room s m ([.ref o, .int w, .int s1, .int n1, .int w2, .int n2, .int n3] : List Value).toArray below meth cd H locs 0 0 (MQ below (va_Qi (fun (r : Int32) (u : MS) => True ∧ mInv u.1 u.2.2.1 ∧ (∀ k, k ∉ ([0] : List Nat) → u.1 k = i k) ∧ (∀ k, k ∉ ([1] : List Nat) → u.2.2.1 k = c k) ∧ ((¬ (0 ≤ w.toInt ∧ w.toInt < (i 5).toInt ∧ 0 ≤ w2.toInt ∧ w2.toInt < (i 5).toInt ∧ 0 ≤ s1.toInt ∧ s1.toInt ≤ 3) ∧ r.toInt = -1) ∨ (0 ≤ w.toInt ∧ w.toInt < (i 5).toInt ∧ 0 ≤ w2.toInt ∧ w2.toInt < (i 5).toInt ∧ 0 ≤ s1.toInt ∧ s1.toInt ≤ 3 ∧ ¬ (¬ (c 63 w.toNatClampNeg).toInt = 0 ∧ ¬ (c 63 w2.toNatClampNeg).toInt = 0 ∧ (c 60 w.toNatClampNeg).toInt = s1.toInt ∧ (c 60 w2.toNatClampNeg).toInt = s1.toInt ∧ 0 ≤ n1.toInt ∧ 0 ≤ n2.toInt ∧ 0 ≤ n3.toInt ∧ n1.toInt + n3.toInt ≤ (c 61 w.toNatClampNeg).toInt ∧ n2.toInt + n3.toInt ≤ (c 61 w2.toNatClampNeg).toInt) ∧ r.toInt = -3) ∨ (0 ≤ w.toInt ∧ w.toInt < (i 5).toInt ∧ 0 ≤ w2.toInt ∧ w2.toInt < (i 5).toInt ∧ 0 ≤ s1.toInt ∧ s1.toInt ≤ 3 ∧ ¬ (c 63 w.toNatClampNeg).toInt = 0 ∧ ¬ (c 63 w2.toNatClampNeg).toInt = 0 ∧ (c 60 w.toNatClampNeg).toInt = s1.toInt ∧ (c 60 w2.toNatClampNeg).toInt = s1.toInt ∧ 0 ≤ n1.toInt ∧ 0 ≤ n2.toInt ∧ 0 ≤ n3.toInt ∧ n1.toInt + n3.toInt ≤ (c 61 w.toNatClampNeg).toInt ∧ n2.toInt + n3.toInt ≤ (c 61 w2.toNatClampNeg).toInt ∧ r.toInt = 1))) (oC D A (fun u : MS => mW o a t u.1 u.2.1 u.2.2.1 u.2.2.2) (fun _ => [])) A) ([.ref o, .int w, .int s1, .int n1, .int w2, .int n2, .int n3] : List Value).toArray s 0 0 A) (F0 m 198 ls []) := by
                                  intro fu
                                  induction fu with
                                  | zero => intro i31 q31 c31 d31 y31_7 hI hfi hfc hy31_7 hm; exact absurd hm (Nat.not_lt_zero _)
                                  | succ fu ih =>
                                    intro i31 q31 c31 d31 y31_7 hI hfi hfc hy31_7 hm H locs ls hP hD hS hl
                                    have ih31 := ih
                                    refine lv_iload hx hb dX12_copy_198 (lv_at hl 0 rfl) ?_
                                    refine lv_iload hx hb dX12_copy_200 (lv_at hl 7 rfl) ?_
                                    refine lv_icmp_ge (tgt := 234) hx hb dX12_copy_202 (by decide) (fun c32 => ?_) (fun c32 => ?_)
                                    · have f32 := (ti_le (a := n3.toInt) (b := y31_7.toInt) rfl rfl).mp c32
                                      refine lv_iconst (v := 1) hx hb dX12_copy_234 (by decide) ?_
                                      exact rw_iret (i31, q31, c31, d31) hx hb hr hlocks hS (hK.sub (tys' := []) [] rfl) hP hD dX12_copy_235 ⟨trivial, hI, fr_w hfi (by decide), fr_w hfc (by decide), (show (¬ (0 ≤ w.toInt ∧ w.toInt < (i 5).toInt ∧ 0 ≤ w2.toInt ∧ w2.toInt < (i 5).toInt ∧ 0 ≤ s1.toInt ∧ s1.toInt ≤ 3) ∧ (1 : Int32).toInt = -1) ∨ (0 ≤ w.toInt ∧ w.toInt < (i 5).toInt ∧ 0 ≤ w2.toInt ∧ w2.toInt < (i 5).toInt ∧ 0 ≤ s1.toInt ∧ s1.toInt ≤ 3 ∧ ¬ (¬ (c 63 w.toNatClampNeg).toInt = 0 ∧ ¬ (c 63 w2.toNatClampNeg).toInt = 0 ∧ (c 60 w.toNatClampNeg).toInt = s1.toInt ∧ (c 60 w2.toNatClampNeg).toInt = s1.toInt ∧ 0 ≤ n1.toInt ∧ 0 ≤ n2.toInt ∧ 0 ≤ n3.toInt ∧ n1.toInt + n3.toInt ≤ (c 61 w.toNatClampNeg).toInt ∧ n2.toInt + n3.toInt ≤ (c 61 w2.toNatClampNeg).toInt) ∧ (1 : Int32).toInt = -3) ∨ (0 ≤ w.toInt ∧ w.toInt < (i 5).toInt ∧ 0 ≤ w2.toInt ∧ w2.toInt < (i 5).toInt ∧ 0 ≤ s1.toInt ∧ s1.toInt ≤ 3 ∧ ¬ (c 63 w.toNatClampNeg).toInt = 0 ∧ ¬ (c 63 w2.toNatClampNeg).toInt = 0 ∧ (c 60 w.toNatClampNeg).toInt = s1.toInt ∧ (c 60 w2.toNatClampNeg).toInt = s1.toInt ∧ 0 ≤ n1.toInt ∧ 0 ≤ n2.toInt ∧ 0 ≤ n3.toInt ∧ n1.toInt + n3.toInt ≤ (c 61 w.toNatClampNeg).toInt ∧ n2.toInt + n3.toInt ≤ (c 61 w2.toNatClampNeg).toInt ∧ (1 : Int32).toInt = 1) from by have h50 : (1 : Int32).toInt = 1 := (by decide); omega)⟩
                                    · have f32 := mt (ti_le (a := n3.toInt) (b := y31_7.toInt) rfl rfl).mpr c32
                                      refine lv_aload_n hx hb dX12_copy_205 rfl (lv_at hl 1 rfl) ?_
                                      refine mget_62 hx hb hts (fun _ h => List.mem_cons_of_mem _ (List.mem_append_right _ h)) hown hK hP (hts (.fieldLink RX12 132 "TalePlayModel" "items" "[J") (List.mem_cons_of_mem _ (List.mem_append_left _ (List.mem_append_right _ (List.mem_of_getElem? (i := 2) rfl))))) dX12_copy_206 ?_
                                      refine lv_bipush (v := 12) hx hb dX12_copy_209 (by decide) ?_
                                      refine lv_iload hx hb dX12_copy_211 (lv_at hl 5 rfl) ?_
                                      refine lv_imul hx hb dX12_copy_213 ?_
                                      refine lv_topi (fun x33 ex33 => ?_)
                                      have tx33 := ti_mul (a := 12) (b := w2.toInt) ex33 (by decide) rfl (by omega) (by omega)
                                      refine lv_iload hx hb dX12_copy_214 (lv_at hl 6 rfl) ?_
                                      refine lv_iadd hx hb dX12_copy_216 ?_
                                      refine lv_topi (fun x34 ex34 => ?_)
                                      have tx34 := ti_add (a := (12 * w2.toInt)) (b := n2.toInt) ex34 tx33 rfl (by omega) (by omega)
                                      refine lv_iload hx hb dX12_copy_217 (lv_at hl 0 rfl) ?_
                                      refine lv_iadd hx hb dX12_copy_219 ?_
                                      refine lv_topi (fun x35 ex35 => ?_)
                                      have tx35 := ti_add (a := ((12 * w2.toInt) + n2.toInt)) (b := y31_7.toInt) ex35 tx34 rfl (by omega) (by omega)
                                      refine lv_aload_n hx hb dX12_copy_220 rfl (lv_at hl 1 rfl) ?_
                                      refine mget_68 hx hb hts (fun _ h => List.mem_cons_of_mem _ (List.mem_append_right _ h)) hown hK hP (hts (.fieldLink RX12 148 "TalePlayModel" "held" "[J") (List.mem_cons_of_mem _ (List.mem_append_left _ (List.mem_append_right _ (List.mem_of_getElem? (i := 3) rfl))))) dX12_copy_221 ?_
                                      refine lv_iload hx hb dX12_copy_224 (lv_at hl 0 rfl) ?_
                                      refine mld_68 hx hb hK hP (vp_in_iff.mpr (by have h9 : y31_7.toInt = y31_7.toInt := rfl; omega)) dX12_copy_226 (fun x36 ex36 => ?_)
                                      refine mst_62 hx hb hK hP hD hS (vp_in_iff.mpr (by have h9 : x35.toInt = (((12 * w2.toInt) + n2.toInt) + y31_7.toInt) := tx35; omega)) dX12_copy_227 (fun H locs hP hD hS => ?_)
                                      obtain ⟨x37, ex37⟩ : ∃ y : Int32, y = y31_7 + 1 := ⟨_, rfl⟩
                                      have tx37 := ti_add (a := y31_7.toInt) (b := 1) ex37 rfl (by decide) (by omega) (by omega)
                                      refine lv_iinc (v := x37) (lv' := [(7, .int x37), (0, .ref o), (1, .int w), (2, .int s1), (3, .int n1), (4, .int w2), (5, .int n2), (6, .int n3)]) hx hb dX12_copy_228 hl (k := 0) rfl (by rw [ex37]; rfl) (by decide) rfl (fun ls hl => ?_)
                                      refine lv_goto (tgt := 198) hx hb dX12_copy_231 (by decide) ?_
                                      exact ih31 i31 q31 c31 (updD d31 62 (x35 : Int32).toNatClampNeg x36) x37 hI (fr_w hfi (by decide)) (fr_w hfc (by decide)) (show 0 ≤ x37.toInt ∧ x37.toInt ≤ 12 from by have h50 : x37.toInt = (y31_7.toInt + 1) := tx37; omega) (by have h50 : x37.toInt = (y31_7.toInt + 1) := tx37; omega) _ _ _ hP hD hS (lv_sub hl [0, 1, 2, 3, 4, 5, 6, 7] rfl)
                                exact lp31 _ i29 q29 c29 d29 (0 : Int32) hI (fr_w hfi (by decide)) (fr_w hfc (by decide)) (show 0 ≤ (0 : Int32).toInt ∧ (0 : Int32).toInt ≤ 12 from by have h50 : (0 : Int32).toInt = 0 := (by decide); omega) (Nat.lt_succ_self _) _ _ _ hP hD hS (lv_sub hl [0, 1, 2, 3, 4, 5, 6, 7] rfl)
                              · have f30 := mt (ti_le (a := n3.toInt) (b := y29_7.toInt) rfl rfl).mpr c30
                                refine lv_aload_n hx hb dX12_copy_168 rfl (lv_at hl 1 rfl) ?_
                                refine mget_68 hx hb hts (fun _ h => List.mem_cons_of_mem _ (List.mem_append_right _ h)) hown hK hP (hts (.fieldLink RX12 148 "TalePlayModel" "held" "[J") (List.mem_cons_of_mem _ (List.mem_append_left _ (List.mem_append_right _ (List.mem_of_getElem? (i := 3) rfl))))) dX12_copy_169 ?_
                                refine lv_iload hx hb dX12_copy_172 (lv_at hl 0 rfl) ?_
                                refine lv_aload_n hx hb dX12_copy_174 rfl (lv_at hl 1 rfl) ?_
                                refine mget_62 hx hb hts (fun _ h => List.mem_cons_of_mem _ (List.mem_append_right _ h)) hown hK hP (hts (.fieldLink RX12 132 "TalePlayModel" "items" "[J") (List.mem_cons_of_mem _ (List.mem_append_left _ (List.mem_append_right _ (List.mem_of_getElem? (i := 2) rfl))))) dX12_copy_175 ?_
                                refine lv_bipush (v := 12) hx hb dX12_copy_178 (by decide) ?_
                                refine lv_iload_n hx hb dX12_copy_180 rfl (lv_at hl 2 rfl) ?_
                                refine lv_imul hx hb dX12_copy_181 ?_
                                refine lv_topi (fun x38 ex38 => ?_)
                                have tx38 := ti_mul (a := 12) (b := w.toInt) ex38 (by decide) rfl (by omega) (by omega)
                                refine lv_iload_n hx hb dX12_copy_182 rfl (lv_at hl 4 rfl) ?_
                                refine lv_iadd hx hb dX12_copy_183 ?_
                                refine lv_topi (fun x39 ex39 => ?_)
                                have tx39 := ti_add (a := (12 * w.toInt)) (b := n1.toInt) ex39 tx38 rfl (by omega) (by omega)
                                refine lv_iload hx hb dX12_copy_184 (lv_at hl 0 rfl) ?_
                                refine lv_iadd hx hb dX12_copy_186 ?_
                                refine lv_topi (fun x40 ex40 => ?_)
                                have tx40 := ti_add (a := ((12 * w.toInt) + n1.toInt)) (b := y29_7.toInt) ex40 tx39 rfl (by omega) (by omega)
                                refine mld_62 hx hb hK hP (vp_in_iff.mpr (by have h9 : x40.toInt = (((12 * w.toInt) + n1.toInt) + y29_7.toInt) := tx40; omega)) dX12_copy_187 (fun x41 ex41 => ?_)
                                refine mst_68 hx hb hK hP hD hS (vp_in_iff.mpr (by have h9 : y29_7.toInt = y29_7.toInt := rfl; omega)) dX12_copy_188 (fun H locs hP hD hS => ?_)
                                obtain ⟨x42, ex42⟩ : ∃ y : Int32, y = y29_7 + 1 := ⟨_, rfl⟩
                                have tx42 := ti_add (a := y29_7.toInt) (b := 1) ex42 rfl (by decide) (by omega) (by omega)
                                refine lv_iinc (v := x42) (lv' := [(7, .int x42), (0, .ref o), (1, .int w), (2, .int s1), (3, .int n1), (4, .int w2), (5, .int n2), (6, .int n3)]) hx hb dX12_copy_189 hl (k := 0) rfl (by rw [ex42]; rfl) (by decide) rfl (fun ls hl => ?_)
                                refine lv_goto (tgt := 161) hx hb dX12_copy_192 (by decide) ?_
                                exact ih29 i29 q29 c29 (updD d29 68 (y29_7 : Int32).toNatClampNeg x41) x42 hI (fr_w hfi (by decide)) (fr_w hfc (by decide)) (show 0 ≤ x42.toInt ∧ x42.toInt ≤ 12 from by have h50 : x42.toInt = (y29_7.toInt + 1) := tx42; omega) (by have h50 : x42.toInt = (y29_7.toInt + 1) := tx42; omega) _ _ _ hP hD hS (lv_sub hl [0, 1, 2, 3, 4, 5, 6, 7] rfl)
                          exact lp29 _ i q c d (0 : Int32) hI (fr_w hfi (by decide)) (fr_w hfc (by decide)) (show 0 ≤ (0 : Int32).toInt ∧ (0 : Int32).toInt ≤ 12 from by have h50 : (0 : Int32).toInt = 0 := (by decide); omega) (Nat.lt_succ_self _) _ _ _ hP hD hS (lv_sub hl [0, 1, 2, 3, 4, 5, 6, 7] rfl)
                        · have f28 := mt (lc_le (a := (n2.toInt + n3.toInt)) (b := x27.toInt) tx26 ((Int32.toInt_toInt64 x27).trans rfl)).mpr c28
                          refine lv_aload_n hx hb dX12_copy_152 rfl (lv_at hl 0 rfl) ?_
                          refine lv_iconst (v := 2) hx hb dX12_copy_153 (by decide) ?_
                          refine al_calli (va_runV (As := [.int 2]) (rest := []) ⟨hx, hb, hml, hown, hts⟩ (s_X12_meets l D H.size o a t i q c d 2 hI (show 1 ≤ 2 ∧ 2 ≤ 6 from by have h90 : (2 : Int32).toInt = 2 := (by decide); omega)) (cwV 1 hts gm_X12_copy_X12_meets rfl rfl rfl (by decide +kernel) ⟨Nat.le_of_ble_eq_true rfl, Nat.le_of_ble_eq_true rfl⟩) (pB_V hK hP hD (ci := 12) (q0 := 0) rfl rfl) rfl rfl hl.1 rfl (lv_room (Nat.le_of_ble_eq_true rfl)) dX12_copy_154 ⟨Nat.le_of_ble_eq_true rfl, Nat.le_of_ble_eq_true rfl⟩) hS hA hP hD (fun r43 u43 H locs hw43 hP hD hS => ?_)
                          obtain ⟨i43, q43, c43, d43⟩ := u43
                          have hw43 : r43 = (-3) ∧ mInv i43 c43 ∧ (∀ k, k ∉ ([0] : List Nat) → i43 k = i k) ∧ (∀ k, k ∉ ([1] : List Nat) → c43 k = c k) := hw43
                          obtain ⟨hw43, hI, hei43, hec43⟩ := hw43
                          have hfi : ∀ k, k ∉ ([0] : List Nat) → i43 k = i k := fr_z hfi hei43 (by decide) (by decide)
                          have hfc : ∀ k, k ∉ ([1] : List Nat) → c43 k = c k := fr_z hfc hec43 (by decide) (by decide)
                          have hP : va_P D vwCl (mW o a t i43 q43 c43 d43) H := hP
                          have hD : va_D A (mW o a t i43 q43 c43 d43) := hD
                          have hw43 : r43 = (-3) := hw43
                          subst hw43
                          exact rw_iret (i43, q43, c43, d43) hx hb hr hlocks hS (hK.sub (tys' := []) [] rfl) hP hD dX12_copy_157 ⟨trivial, hI, fr_w hfi (by decide), fr_w hfc (by decide), (show (¬ (0 ≤ w.toInt ∧ w.toInt < (i 5).toInt ∧ 0 ≤ w2.toInt ∧ w2.toInt < (i 5).toInt ∧ 0 ≤ s1.toInt ∧ s1.toInt ≤ 3) ∧ ((-3) : Int32).toInt = -1) ∨ (0 ≤ w.toInt ∧ w.toInt < (i 5).toInt ∧ 0 ≤ w2.toInt ∧ w2.toInt < (i 5).toInt ∧ 0 ≤ s1.toInt ∧ s1.toInt ≤ 3 ∧ ¬ (¬ (c 63 w.toNatClampNeg).toInt = 0 ∧ ¬ (c 63 w2.toNatClampNeg).toInt = 0 ∧ (c 60 w.toNatClampNeg).toInt = s1.toInt ∧ (c 60 w2.toNatClampNeg).toInt = s1.toInt ∧ 0 ≤ n1.toInt ∧ 0 ≤ n2.toInt ∧ 0 ≤ n3.toInt ∧ n1.toInt + n3.toInt ≤ (c 61 w.toNatClampNeg).toInt ∧ n2.toInt + n3.toInt ≤ (c 61 w2.toNatClampNeg).toInt) ∧ ((-3) : Int32).toInt = -3) ∨ (0 ≤ w.toInt ∧ w.toInt < (i 5).toInt ∧ 0 ≤ w2.toInt ∧ w2.toInt < (i 5).toInt ∧ 0 ≤ s1.toInt ∧ s1.toInt ≤ 3 ∧ ¬ (c 63 w.toNatClampNeg).toInt = 0 ∧ ¬ (c 63 w2.toNatClampNeg).toInt = 0 ∧ (c 60 w.toNatClampNeg).toInt = s1.toInt ∧ (c 60 w2.toNatClampNeg).toInt = s1.toInt ∧ 0 ≤ n1.toInt ∧ 0 ≤ n2.toInt ∧ 0 ≤ n3.toInt ∧ n1.toInt + n3.toInt ≤ (c 61 w.toNatClampNeg).toInt ∧ n2.toInt + n3.toInt ≤ (c 61 w2.toNatClampNeg).toInt ∧ ((-3) : Int32).toInt = 1) from by have h50 : ((-3) : Int32).toInt = -3 := (by decide); omega)⟩
              · have f15 := (ti_eq (a := x14.toInt) (b := 0) rfl (by decide)).mp c15
                refine lv_aload_n hx hb dX12_copy_96 rfl (lv_at hl 0 rfl) ?_
                refine lv_iconst (v := 1) hx hb dX12_copy_97 (by decide) ?_
                refine al_calli (va_runV (As := [.int 1]) (rest := []) ⟨hx, hb, hml, hown, hts⟩ (s_X12_meets l D H.size o a t i q c d 1 hI (show 1 ≤ 1 ∧ 1 ≤ 6 from by have h90 : (1 : Int32).toInt = 1 := (by decide); omega)) (cwV 1 hts gm_X12_copy_X12_meets rfl rfl rfl (by decide +kernel) ⟨Nat.le_of_ble_eq_true rfl, Nat.le_of_ble_eq_true rfl⟩) (pB_V hK hP hD (ci := 12) (q0 := 0) rfl rfl) rfl rfl hl.1 rfl (lv_room (Nat.le_of_ble_eq_true rfl)) dX12_copy_98 ⟨Nat.le_of_ble_eq_true rfl, Nat.le_of_ble_eq_true rfl⟩) hS hA hP hD (fun r44 u44 H locs hw44 hP hD hS => ?_)
                obtain ⟨i44, q44, c44, d44⟩ := u44
                have hw44 : r44 = (-3) ∧ mInv i44 c44 ∧ (∀ k, k ∉ ([0] : List Nat) → i44 k = i k) ∧ (∀ k, k ∉ ([1] : List Nat) → c44 k = c k) := hw44
                obtain ⟨hw44, hI, hei44, hec44⟩ := hw44
                have hfi : ∀ k, k ∉ ([0] : List Nat) → i44 k = i k := fr_z hfi hei44 (by decide) (by decide)
                have hfc : ∀ k, k ∉ ([1] : List Nat) → c44 k = c k := fr_z hfc hec44 (by decide) (by decide)
                have hP : va_P D vwCl (mW o a t i44 q44 c44 d44) H := hP
                have hD : va_D A (mW o a t i44 q44 c44 d44) := hD
                have hw44 : r44 = (-3) := hw44
                subst hw44
                exact rw_iret (i44, q44, c44, d44) hx hb hr hlocks hS (hK.sub (tys' := []) [] rfl) hP hD dX12_copy_101 ⟨trivial, hI, fr_w hfi (by decide), fr_w hfc (by decide), (show (¬ (0 ≤ w.toInt ∧ w.toInt < (i 5).toInt ∧ 0 ≤ w2.toInt ∧ w2.toInt < (i 5).toInt ∧ 0 ≤ s1.toInt ∧ s1.toInt ≤ 3) ∧ ((-3) : Int32).toInt = -1) ∨ (0 ≤ w.toInt ∧ w.toInt < (i 5).toInt ∧ 0 ≤ w2.toInt ∧ w2.toInt < (i 5).toInt ∧ 0 ≤ s1.toInt ∧ s1.toInt ≤ 3 ∧ ¬ (¬ (c 63 w.toNatClampNeg).toInt = 0 ∧ ¬ (c 63 w2.toNatClampNeg).toInt = 0 ∧ (c 60 w.toNatClampNeg).toInt = s1.toInt ∧ (c 60 w2.toNatClampNeg).toInt = s1.toInt ∧ 0 ≤ n1.toInt ∧ 0 ≤ n2.toInt ∧ 0 ≤ n3.toInt ∧ n1.toInt + n3.toInt ≤ (c 61 w.toNatClampNeg).toInt ∧ n2.toInt + n3.toInt ≤ (c 61 w2.toNatClampNeg).toInt) ∧ ((-3) : Int32).toInt = -3) ∨ (0 ≤ w.toInt ∧ w.toInt < (i 5).toInt ∧ 0 ≤ w2.toInt ∧ w2.toInt < (i 5).toInt ∧ 0 ≤ s1.toInt ∧ s1.toInt ≤ 3 ∧ ¬ (c 63 w.toNatClampNeg).toInt = 0 ∧ ¬ (c 63 w2.toNatClampNeg).toInt = 0 ∧ (c 60 w.toNatClampNeg).toInt = s1.toInt ∧ (c 60 w2.toNatClampNeg).toInt = s1.toInt ∧ 0 ≤ n1.toInt ∧ 0 ≤ n2.toInt ∧ 0 ≤ n3.toInt ∧ n1.toInt + n3.toInt ≤ (c 61 w.toNatClampNeg).toInt ∧ n2.toInt + n3.toInt ≤ (c 61 w2.toNatClampNeg).toInt ∧ ((-3) : Int32).toInt = 1) from by have h50 : ((-3) : Int32).toInt = -3 := (by decide); omega)⟩
          · have f10 := mt (ti_eq (a := x9.toInt) (b := 0) rfl (by decide)).mpr c10
            refine lv_aload_n hx hb dX12_copy_60 rfl (lv_at hl 0 rfl) ?_
            refine mget_60 hx hb hts (fun _ h => List.mem_cons_of_mem _ (List.mem_append_right _ h)) hown hK hP (hts (.fieldLink RX12 126 "TalePlayModel" "lineSort" "[I") (List.mem_cons_of_mem _ (List.mem_append_left _ (List.mem_append_right _ (List.mem_of_getElem? (i := 4) rfl))))) dX12_copy_61 ?_
            refine lv_iload hx hb dX12_copy_64 (lv_at hl 4 rfl) ?_
            refine mld_60 hx hb hK hP (vp_in_iff.mpr (by have h9 : w2.toInt = w2.toInt := rfl; omega)) dX12_copy_66 (fun x45 ex45 => ?_)
            have rx45 : 0 ≤ x45.toInt ∧ x45.toInt ≤ 3 := by rw [ex45]; exact hI.2 60 _
            have gx45 : (c 60 (w2 : Int32).toNatClampNeg).toInt = x45.toInt := by rw [ex45]
            refine lv_iload_n hx hb dX12_copy_67 rfl (lv_at hl 2 rfl) ?_
            refine lv_icmp_eq (tgt := 77) hx hb dX12_copy_68 (by decide) (fun c46 => ?_) (fun c46 => ?_)
            · have f46 := (ti_eq (a := x45.toInt) (b := s1.toInt) rfl rfl).mp c46
              refine lv_aload_n hx hb dX12_copy_77 rfl (lv_at hl 0 rfl) ?_
              refine mget_63 hx hb hts (fun _ h => List.mem_cons_of_mem _ (List.mem_append_right _ h)) hown hK hP (hts (.fieldLink RX12 136 "TalePlayModel" "hasLine" "[Z") (List.mem_cons_of_mem _ (List.mem_append_left _ (List.mem_append_left _ (List.mem_of_getElem? (i := 10) rfl))))) dX12_copy_78 ?_
              refine lv_iload_n hx hb dX12_copy_81 rfl (lv_at hl 1 rfl) ?_
              refine mld_63 hx hb hK hP (vp_in_iff.mpr (by have h9 : w.toInt = w.toInt := rfl; omega)) dX12_copy_82 (fun x47 ex47 => ?_)
              have rx47 : 0 ≤ x47.toInt ∧ x47.toInt ≤ 1 := by rw [ex47]; exact hI.2 63 _
              have gx47 : (c 63 (w : Int32).toNatClampNeg).toInt = x47.toInt := by rw [ex47]
              refine lv_if_eq (tgt := 96) hx hb dX12_copy_83 (by decide) (fun c48 => ?_) (fun c48 => ?_)
              · have f48 := (ti_eq (a := x47.toInt) (b := 0) rfl (by decide)).mp c48
                refine lv_aload_n hx hb dX12_copy_96 rfl (lv_at hl 0 rfl) ?_
                refine lv_iconst (v := 1) hx hb dX12_copy_97 (by decide) ?_
                refine al_calli (va_runV (As := [.int 1]) (rest := []) ⟨hx, hb, hml, hown, hts⟩ (s_X12_meets l D H.size o a t i q c d 1 hI (show 1 ≤ 1 ∧ 1 ≤ 6 from by have h90 : (1 : Int32).toInt = 1 := (by decide); omega)) (cwV 1 hts gm_X12_copy_X12_meets rfl rfl rfl (by decide +kernel) ⟨Nat.le_of_ble_eq_true rfl, Nat.le_of_ble_eq_true rfl⟩) (pB_V hK hP hD (ci := 12) (q0 := 0) rfl rfl) rfl rfl hl.1 rfl (lv_room (Nat.le_of_ble_eq_true rfl)) dX12_copy_98 ⟨Nat.le_of_ble_eq_true rfl, Nat.le_of_ble_eq_true rfl⟩) hS hA hP hD (fun r49 u49 H locs hw49 hP hD hS => ?_)
                obtain ⟨i49, q49, c49, d49⟩ := u49
                have hw49 : r49 = (-3) ∧ mInv i49 c49 ∧ (∀ k, k ∉ ([0] : List Nat) → i49 k = i k) ∧ (∀ k, k ∉ ([1] : List Nat) → c49 k = c k) := hw49
                obtain ⟨hw49, hI, hei49, hec49⟩ := hw49
                have hfi : ∀ k, k ∉ ([0] : List Nat) → i49 k = i k := fr_z hfi hei49 (by decide) (by decide)
                have hfc : ∀ k, k ∉ ([1] : List Nat) → c49 k = c k := fr_z hfc hec49 (by decide) (by decide)
                have hP : va_P D vwCl (mW o a t i49 q49 c49 d49) H := hP
                have hD : va_D A (mW o a t i49 q49 c49 d49) := hD
                have hw49 : r49 = (-3) := hw49
                subst hw49
                exact rw_iret (i49, q49, c49, d49) hx hb hr hlocks hS (hK.sub (tys' := []) [] rfl) hP hD dX12_copy_101 ⟨trivial, hI, fr_w hfi (by decide), fr_w hfc (by decide), (show (¬ (0 ≤ w.toInt ∧ w.toInt < (i 5).toInt ∧ 0 ≤ w2.toInt ∧ w2.toInt < (i 5).toInt ∧ 0 ≤ s1.toInt ∧ s1.toInt ≤ 3) ∧ ((-3) : Int32).toInt = -1) ∨ (0 ≤ w.toInt ∧ w.toInt < (i 5).toInt ∧ 0 ≤ w2.toInt ∧ w2.toInt < (i 5).toInt ∧ 0 ≤ s1.toInt ∧ s1.toInt ≤ 3 ∧ ¬ (¬ (c 63 w.toNatClampNeg).toInt = 0 ∧ ¬ (c 63 w2.toNatClampNeg).toInt = 0 ∧ (c 60 w.toNatClampNeg).toInt = s1.toInt ∧ (c 60 w2.toNatClampNeg).toInt = s1.toInt ∧ 0 ≤ n1.toInt ∧ 0 ≤ n2.toInt ∧ 0 ≤ n3.toInt ∧ n1.toInt + n3.toInt ≤ (c 61 w.toNatClampNeg).toInt ∧ n2.toInt + n3.toInt ≤ (c 61 w2.toNatClampNeg).toInt) ∧ ((-3) : Int32).toInt = -3) ∨ (0 ≤ w.toInt ∧ w.toInt < (i 5).toInt ∧ 0 ≤ w2.toInt ∧ w2.toInt < (i 5).toInt ∧ 0 ≤ s1.toInt ∧ s1.toInt ≤ 3 ∧ ¬ (c 63 w.toNatClampNeg).toInt = 0 ∧ ¬ (c 63 w2.toNatClampNeg).toInt = 0 ∧ (c 60 w.toNatClampNeg).toInt = s1.toInt ∧ (c 60 w2.toNatClampNeg).toInt = s1.toInt ∧ 0 ≤ n1.toInt ∧ 0 ≤ n2.toInt ∧ 0 ≤ n3.toInt ∧ n1.toInt + n3.toInt ≤ (c 61 w.toNatClampNeg).toInt ∧ n2.toInt + n3.toInt ≤ (c 61 w2.toNatClampNeg).toInt ∧ ((-3) : Int32).toInt = 1) from by have h50 : ((-3) : Int32).toInt = -3 := (by decide); omega)⟩
              · have f48 := mt (ti_eq (a := x47.toInt) (b := 0) rfl (by decide)).mpr c48
                refine lv_aload_n hx hb dX12_copy_86 rfl (lv_at hl 0 rfl) ?_
                refine mget_63 hx hb hts (fun _ h => List.mem_cons_of_mem _ (List.mem_append_right _ h)) hown hK hP (hts (.fieldLink RX12 136 "TalePlayModel" "hasLine" "[Z") (List.mem_cons_of_mem _ (List.mem_append_left _ (List.mem_append_left _ (List.mem_of_getElem? (i := 10) rfl))))) dX12_copy_87 ?_
                refine lv_iload hx hb dX12_copy_90 (lv_at hl 4 rfl) ?_
                refine mld_63 hx hb hK hP (vp_in_iff.mpr (by have h9 : w2.toInt = w2.toInt := rfl; omega)) dX12_copy_92 (fun x50 ex50 => ?_)
                have rx50 : 0 ≤ x50.toInt ∧ x50.toInt ≤ 1 := by rw [ex50]; exact hI.2 63 _
                have gx50 : (c 63 (w2 : Int32).toNatClampNeg).toInt = x50.toInt := by rw [ex50]
                refine lv_if_ne (tgt := 102) hx hb dX12_copy_93 (by decide) (fun c51 => ?_) (fun c51 => ?_)
                · have f51 := mt (ti_eq (a := x50.toInt) (b := 0) rfl (by decide)).mpr c51
                  refine lv_iload_n hx hb dX12_copy_102 rfl (lv_at hl 3 rfl) ?_
                  refine lv_if_lt (tgt := 152) hx hb dX12_copy_103 (by decide) (fun c52 => ?_) (fun c52 => ?_)
                  · have f52 := (ti_lt (a := n1.toInt) (b := 0) rfl (by decide)).mp c52
                    refine lv_aload_n hx hb dX12_copy_152 rfl (lv_at hl 0 rfl) ?_
                    refine lv_iconst (v := 2) hx hb dX12_copy_153 (by decide) ?_
                    refine al_calli (va_runV (As := [.int 2]) (rest := []) ⟨hx, hb, hml, hown, hts⟩ (s_X12_meets l D H.size o a t i q c d 2 hI (show 1 ≤ 2 ∧ 2 ≤ 6 from by have h90 : (2 : Int32).toInt = 2 := (by decide); omega)) (cwV 1 hts gm_X12_copy_X12_meets rfl rfl rfl (by decide +kernel) ⟨Nat.le_of_ble_eq_true rfl, Nat.le_of_ble_eq_true rfl⟩) (pB_V hK hP hD (ci := 12) (q0 := 0) rfl rfl) rfl rfl hl.1 rfl (lv_room (Nat.le_of_ble_eq_true rfl)) dX12_copy_154 ⟨Nat.le_of_ble_eq_true rfl, Nat.le_of_ble_eq_true rfl⟩) hS hA hP hD (fun r53 u53 H locs hw53 hP hD hS => ?_)
                    obtain ⟨i53, q53, c53, d53⟩ := u53
                    have hw53 : r53 = (-3) ∧ mInv i53 c53 ∧ (∀ k, k ∉ ([0] : List Nat) → i53 k = i k) ∧ (∀ k, k ∉ ([1] : List Nat) → c53 k = c k) := hw53
                    obtain ⟨hw53, hI, hei53, hec53⟩ := hw53
                    have hfi : ∀ k, k ∉ ([0] : List Nat) → i53 k = i k := fr_z hfi hei53 (by decide) (by decide)
                    have hfc : ∀ k, k ∉ ([1] : List Nat) → c53 k = c k := fr_z hfc hec53 (by decide) (by decide)
                    have hP : va_P D vwCl (mW o a t i53 q53 c53 d53) H := hP
                    have hD : va_D A (mW o a t i53 q53 c53 d53) := hD
                    have hw53 : r53 = (-3) := hw53
                    subst hw53
                    exact rw_iret (i53, q53, c53, d53) hx hb hr hlocks hS (hK.sub (tys' := []) [] rfl) hP hD dX12_copy_157 ⟨trivial, hI, fr_w hfi (by decide), fr_w hfc (by decide), (show (¬ (0 ≤ w.toInt ∧ w.toInt < (i 5).toInt ∧ 0 ≤ w2.toInt ∧ w2.toInt < (i 5).toInt ∧ 0 ≤ s1.toInt ∧ s1.toInt ≤ 3) ∧ ((-3) : Int32).toInt = -1) ∨ (0 ≤ w.toInt ∧ w.toInt < (i 5).toInt ∧ 0 ≤ w2.toInt ∧ w2.toInt < (i 5).toInt ∧ 0 ≤ s1.toInt ∧ s1.toInt ≤ 3 ∧ ¬ (¬ (c 63 w.toNatClampNeg).toInt = 0 ∧ ¬ (c 63 w2.toNatClampNeg).toInt = 0 ∧ (c 60 w.toNatClampNeg).toInt = s1.toInt ∧ (c 60 w2.toNatClampNeg).toInt = s1.toInt ∧ 0 ≤ n1.toInt ∧ 0 ≤ n2.toInt ∧ 0 ≤ n3.toInt ∧ n1.toInt + n3.toInt ≤ (c 61 w.toNatClampNeg).toInt ∧ n2.toInt + n3.toInt ≤ (c 61 w2.toNatClampNeg).toInt) ∧ ((-3) : Int32).toInt = -3) ∨ (0 ≤ w.toInt ∧ w.toInt < (i 5).toInt ∧ 0 ≤ w2.toInt ∧ w2.toInt < (i 5).toInt ∧ 0 ≤ s1.toInt ∧ s1.toInt ≤ 3 ∧ ¬ (c 63 w.toNatClampNeg).toInt = 0 ∧ ¬ (c 63 w2.toNatClampNeg).toInt = 0 ∧ (c 60 w.toNatClampNeg).toInt = s1.toInt ∧ (c 60 w2.toNatClampNeg).toInt = s1.toInt ∧ 0 ≤ n1.toInt ∧ 0 ≤ n2.toInt ∧ 0 ≤ n3.toInt ∧ n1.toInt + n3.toInt ≤ (c 61 w.toNatClampNeg).toInt ∧ n2.toInt + n3.toInt ≤ (c 61 w2.toNatClampNeg).toInt ∧ ((-3) : Int32).toInt = 1) from by have h50 : ((-3) : Int32).toInt = -3 := (by decide); omega)⟩
                  · have f52 := mt (ti_lt (a := n1.toInt) (b := 0) rfl (by decide)).mpr c52
                    refine lv_iload hx hb dX12_copy_106 (lv_at hl 5 rfl) ?_
                    refine lv_if_lt (tgt := 152) hx hb dX12_copy_108 (by decide) (fun c54 => ?_) (fun c54 => ?_)
                    · have f54 := (ti_lt (a := n2.toInt) (b := 0) rfl (by decide)).mp c54
                      refine lv_aload_n hx hb dX12_copy_152 rfl (lv_at hl 0 rfl) ?_
                      refine lv_iconst (v := 2) hx hb dX12_copy_153 (by decide) ?_
                      refine al_calli (va_runV (As := [.int 2]) (rest := []) ⟨hx, hb, hml, hown, hts⟩ (s_X12_meets l D H.size o a t i q c d 2 hI (show 1 ≤ 2 ∧ 2 ≤ 6 from by have h90 : (2 : Int32).toInt = 2 := (by decide); omega)) (cwV 1 hts gm_X12_copy_X12_meets rfl rfl rfl (by decide +kernel) ⟨Nat.le_of_ble_eq_true rfl, Nat.le_of_ble_eq_true rfl⟩) (pB_V hK hP hD (ci := 12) (q0 := 0) rfl rfl) rfl rfl hl.1 rfl (lv_room (Nat.le_of_ble_eq_true rfl)) dX12_copy_154 ⟨Nat.le_of_ble_eq_true rfl, Nat.le_of_ble_eq_true rfl⟩) hS hA hP hD (fun r55 u55 H locs hw55 hP hD hS => ?_)
                      obtain ⟨i55, q55, c55, d55⟩ := u55
                      have hw55 : r55 = (-3) ∧ mInv i55 c55 ∧ (∀ k, k ∉ ([0] : List Nat) → i55 k = i k) ∧ (∀ k, k ∉ ([1] : List Nat) → c55 k = c k) := hw55
                      obtain ⟨hw55, hI, hei55, hec55⟩ := hw55
                      have hfi : ∀ k, k ∉ ([0] : List Nat) → i55 k = i k := fr_z hfi hei55 (by decide) (by decide)
                      have hfc : ∀ k, k ∉ ([1] : List Nat) → c55 k = c k := fr_z hfc hec55 (by decide) (by decide)
                      have hP : va_P D vwCl (mW o a t i55 q55 c55 d55) H := hP
                      have hD : va_D A (mW o a t i55 q55 c55 d55) := hD
                      have hw55 : r55 = (-3) := hw55
                      subst hw55
                      exact rw_iret (i55, q55, c55, d55) hx hb hr hlocks hS (hK.sub (tys' := []) [] rfl) hP hD dX12_copy_157 ⟨trivial, hI, fr_w hfi (by decide), fr_w hfc (by decide), (show (¬ (0 ≤ w.toInt ∧ w.toInt < (i 5).toInt ∧ 0 ≤ w2.toInt ∧ w2.toInt < (i 5).toInt ∧ 0 ≤ s1.toInt ∧ s1.toInt ≤ 3) ∧ ((-3) : Int32).toInt = -1) ∨ (0 ≤ w.toInt ∧ w.toInt < (i 5).toInt ∧ 0 ≤ w2.toInt ∧ w2.toInt < (i 5).toInt ∧ 0 ≤ s1.toInt ∧ s1.toInt ≤ 3 ∧ ¬ (¬ (c 63 w.toNatClampNeg).toInt = 0 ∧ ¬ (c 63 w2.toNatClampNeg).toInt = 0 ∧ (c 60 w.toNatClampNeg).toInt = s1.toInt ∧ (c 60 w2.toNatClampNeg).toInt = s1.toInt ∧ 0 ≤ n1.toInt ∧ 0 ≤ n2.toInt ∧ 0 ≤ n3.toInt ∧ n1.toInt + n3.toInt ≤ (c 61 w.toNatClampNeg).toInt ∧ n2.toInt + n3.toInt ≤ (c 61 w2.toNatClampNeg).toInt) ∧ ((-3) : Int32).toInt = -3) ∨ (0 ≤ w.toInt ∧ w.toInt < (i 5).toInt ∧ 0 ≤ w2.toInt ∧ w2.toInt < (i 5).toInt ∧ 0 ≤ s1.toInt ∧ s1.toInt ≤ 3 ∧ ¬ (c 63 w.toNatClampNeg).toInt = 0 ∧ ¬ (c 63 w2.toNatClampNeg).toInt = 0 ∧ (c 60 w.toNatClampNeg).toInt = s1.toInt ∧ (c 60 w2.toNatClampNeg).toInt = s1.toInt ∧ 0 ≤ n1.toInt ∧ 0 ≤ n2.toInt ∧ 0 ≤ n3.toInt ∧ n1.toInt + n3.toInt ≤ (c 61 w.toNatClampNeg).toInt ∧ n2.toInt + n3.toInt ≤ (c 61 w2.toNatClampNeg).toInt ∧ ((-3) : Int32).toInt = 1) from by have h50 : ((-3) : Int32).toInt = -3 := (by decide); omega)⟩
                    · have f54 := mt (ti_lt (a := n2.toInt) (b := 0) rfl (by decide)).mpr c54
                      refine lv_iload hx hb dX12_copy_111 (lv_at hl 6 rfl) ?_
                      refine lv_if_lt (tgt := 152) hx hb dX12_copy_113 (by decide) (fun c56 => ?_) (fun c56 => ?_)
                      · have f56 := (ti_lt (a := n3.toInt) (b := 0) rfl (by decide)).mp c56
                        refine lv_aload_n hx hb dX12_copy_152 rfl (lv_at hl 0 rfl) ?_
                        refine lv_iconst (v := 2) hx hb dX12_copy_153 (by decide) ?_
                        refine al_calli (va_runV (As := [.int 2]) (rest := []) ⟨hx, hb, hml, hown, hts⟩ (s_X12_meets l D H.size o a t i q c d 2 hI (show 1 ≤ 2 ∧ 2 ≤ 6 from by have h90 : (2 : Int32).toInt = 2 := (by decide); omega)) (cwV 1 hts gm_X12_copy_X12_meets rfl rfl rfl (by decide +kernel) ⟨Nat.le_of_ble_eq_true rfl, Nat.le_of_ble_eq_true rfl⟩) (pB_V hK hP hD (ci := 12) (q0 := 0) rfl rfl) rfl rfl hl.1 rfl (lv_room (Nat.le_of_ble_eq_true rfl)) dX12_copy_154 ⟨Nat.le_of_ble_eq_true rfl, Nat.le_of_ble_eq_true rfl⟩) hS hA hP hD (fun r57 u57 H locs hw57 hP hD hS => ?_)
                        obtain ⟨i57, q57, c57, d57⟩ := u57
                        have hw57 : r57 = (-3) ∧ mInv i57 c57 ∧ (∀ k, k ∉ ([0] : List Nat) → i57 k = i k) ∧ (∀ k, k ∉ ([1] : List Nat) → c57 k = c k) := hw57
                        obtain ⟨hw57, hI, hei57, hec57⟩ := hw57
                        have hfi : ∀ k, k ∉ ([0] : List Nat) → i57 k = i k := fr_z hfi hei57 (by decide) (by decide)
                        have hfc : ∀ k, k ∉ ([1] : List Nat) → c57 k = c k := fr_z hfc hec57 (by decide) (by decide)
                        have hP : va_P D vwCl (mW o a t i57 q57 c57 d57) H := hP
                        have hD : va_D A (mW o a t i57 q57 c57 d57) := hD
                        have hw57 : r57 = (-3) := hw57
                        subst hw57
                        exact rw_iret (i57, q57, c57, d57) hx hb hr hlocks hS (hK.sub (tys' := []) [] rfl) hP hD dX12_copy_157 ⟨trivial, hI, fr_w hfi (by decide), fr_w hfc (by decide), (show (¬ (0 ≤ w.toInt ∧ w.toInt < (i 5).toInt ∧ 0 ≤ w2.toInt ∧ w2.toInt < (i 5).toInt ∧ 0 ≤ s1.toInt ∧ s1.toInt ≤ 3) ∧ ((-3) : Int32).toInt = -1) ∨ (0 ≤ w.toInt ∧ w.toInt < (i 5).toInt ∧ 0 ≤ w2.toInt ∧ w2.toInt < (i 5).toInt ∧ 0 ≤ s1.toInt ∧ s1.toInt ≤ 3 ∧ ¬ (¬ (c 63 w.toNatClampNeg).toInt = 0 ∧ ¬ (c 63 w2.toNatClampNeg).toInt = 0 ∧ (c 60 w.toNatClampNeg).toInt = s1.toInt ∧ (c 60 w2.toNatClampNeg).toInt = s1.toInt ∧ 0 ≤ n1.toInt ∧ 0 ≤ n2.toInt ∧ 0 ≤ n3.toInt ∧ n1.toInt + n3.toInt ≤ (c 61 w.toNatClampNeg).toInt ∧ n2.toInt + n3.toInt ≤ (c 61 w2.toNatClampNeg).toInt) ∧ ((-3) : Int32).toInt = -3) ∨ (0 ≤ w.toInt ∧ w.toInt < (i 5).toInt ∧ 0 ≤ w2.toInt ∧ w2.toInt < (i 5).toInt ∧ 0 ≤ s1.toInt ∧ s1.toInt ≤ 3 ∧ ¬ (c 63 w.toNatClampNeg).toInt = 0 ∧ ¬ (c 63 w2.toNatClampNeg).toInt = 0 ∧ (c 60 w.toNatClampNeg).toInt = s1.toInt ∧ (c 60 w2.toNatClampNeg).toInt = s1.toInt ∧ 0 ≤ n1.toInt ∧ 0 ≤ n2.toInt ∧ 0 ≤ n3.toInt ∧ n1.toInt + n3.toInt ≤ (c 61 w.toNatClampNeg).toInt ∧ n2.toInt + n3.toInt ≤ (c 61 w2.toNatClampNeg).toInt ∧ ((-3) : Int32).toInt = 1) from by have h50 : ((-3) : Int32).toInt = -3 := (by decide); omega)⟩
                      · have f56 := mt (ti_lt (a := n3.toInt) (b := 0) rfl (by decide)).mpr c56
                        refine lv_iload_n hx hb dX12_copy_116 rfl (lv_at hl 3 rfl) ?_
                        refine lv_i2l (v := n1.toInt64) hx hb dX12_copy_117 rfl ?_
                        refine lv_iload hx hb dX12_copy_118 (lv_at hl 6 rfl) ?_
                        refine lv_i2l (v := n3.toInt64) hx hb dX12_copy_120 rfl ?_
                        refine lv_ladd hx hb dX12_copy_121 ?_
                        refine lv_topl (fun x58 ex58 => ?_)
                        have ib58_n1 := i32b n1
                        have ib58_n3 := i32b n3
                        have tx58 := ti_addl (a := n1.toInt) (b := n3.toInt) ex58 ((Int32.toInt_toInt64 n1).trans rfl) ((Int32.toInt_toInt64 n3).trans rfl) (by omega) (by omega)
                        refine lv_aload_n hx hb dX12_copy_122 rfl (lv_at hl 0 rfl) ?_
                        refine mget_61 hx hb hts (fun _ h => List.mem_cons_of_mem _ (List.mem_append_right _ h)) hown hK hP (hts (.fieldLink RX12 129 "TalePlayModel" "lineMany" "[I") (List.mem_cons_of_mem _ (List.mem_append_left _ (List.mem_append_right _ (List.mem_of_getElem? (i := 1) rfl))))) dX12_copy_123 ?_
                        refine lv_iload_n hx hb dX12_copy_126 rfl (lv_at hl 1 rfl) ?_
                        refine mld_61 hx hb hK hP (vp_in_iff.mpr (by have h9 : w.toInt = w.toInt := rfl; omega)) dX12_copy_127 (fun x59 ex59 => ?_)
                        have rx59 : 0 ≤ x59.toInt ∧ x59.toInt ≤ 12 := by rw [ex59]; exact hI.2 61 _
                        have gx59 : (c 61 (w : Int32).toNatClampNeg).toInt = x59.toInt := by rw [ex59]
                        refine lv_i2l (v := x59.toInt64) hx hb dX12_copy_128 rfl ?_
                        refine W.lcmp hx hb dX12_copy_129 ?_
                        refine lv_if_gt (tgt := 152) hx hb dX12_copy_130 (by decide) (fun c60 => ?_) (fun c60 => ?_)
                        · have f60 := (lc_gt (a := (n1.toInt + n3.toInt)) (b := x59.toInt) tx58 ((Int32.toInt_toInt64 x59).trans rfl)).mp c60
                          refine lv_aload_n hx hb dX12_copy_152 rfl (lv_at hl 0 rfl) ?_
                          refine lv_iconst (v := 2) hx hb dX12_copy_153 (by decide) ?_
                          refine al_calli (va_runV (As := [.int 2]) (rest := []) ⟨hx, hb, hml, hown, hts⟩ (s_X12_meets l D H.size o a t i q c d 2 hI (show 1 ≤ 2 ∧ 2 ≤ 6 from by have h90 : (2 : Int32).toInt = 2 := (by decide); omega)) (cwV 1 hts gm_X12_copy_X12_meets rfl rfl rfl (by decide +kernel) ⟨Nat.le_of_ble_eq_true rfl, Nat.le_of_ble_eq_true rfl⟩) (pB_V hK hP hD (ci := 12) (q0 := 0) rfl rfl) rfl rfl hl.1 rfl (lv_room (Nat.le_of_ble_eq_true rfl)) dX12_copy_154 ⟨Nat.le_of_ble_eq_true rfl, Nat.le_of_ble_eq_true rfl⟩) hS hA hP hD (fun r61 u61 H locs hw61 hP hD hS => ?_)
                          obtain ⟨i61, q61, c61, d61⟩ := u61
                          have hw61 : r61 = (-3) ∧ mInv i61 c61 ∧ (∀ k, k ∉ ([0] : List Nat) → i61 k = i k) ∧ (∀ k, k ∉ ([1] : List Nat) → c61 k = c k) := hw61
                          obtain ⟨hw61, hI, hei61, hec61⟩ := hw61
                          have hfi : ∀ k, k ∉ ([0] : List Nat) → i61 k = i k := fr_z hfi hei61 (by decide) (by decide)
                          have hfc : ∀ k, k ∉ ([1] : List Nat) → c61 k = c k := fr_z hfc hec61 (by decide) (by decide)
                          have hP : va_P D vwCl (mW o a t i61 q61 c61 d61) H := hP
                          have hD : va_D A (mW o a t i61 q61 c61 d61) := hD
                          have hw61 : r61 = (-3) := hw61
                          subst hw61
                          exact rw_iret (i61, q61, c61, d61) hx hb hr hlocks hS (hK.sub (tys' := []) [] rfl) hP hD dX12_copy_157 ⟨trivial, hI, fr_w hfi (by decide), fr_w hfc (by decide), (show (¬ (0 ≤ w.toInt ∧ w.toInt < (i 5).toInt ∧ 0 ≤ w2.toInt ∧ w2.toInt < (i 5).toInt ∧ 0 ≤ s1.toInt ∧ s1.toInt ≤ 3) ∧ ((-3) : Int32).toInt = -1) ∨ (0 ≤ w.toInt ∧ w.toInt < (i 5).toInt ∧ 0 ≤ w2.toInt ∧ w2.toInt < (i 5).toInt ∧ 0 ≤ s1.toInt ∧ s1.toInt ≤ 3 ∧ ¬ (¬ (c 63 w.toNatClampNeg).toInt = 0 ∧ ¬ (c 63 w2.toNatClampNeg).toInt = 0 ∧ (c 60 w.toNatClampNeg).toInt = s1.toInt ∧ (c 60 w2.toNatClampNeg).toInt = s1.toInt ∧ 0 ≤ n1.toInt ∧ 0 ≤ n2.toInt ∧ 0 ≤ n3.toInt ∧ n1.toInt + n3.toInt ≤ (c 61 w.toNatClampNeg).toInt ∧ n2.toInt + n3.toInt ≤ (c 61 w2.toNatClampNeg).toInt) ∧ ((-3) : Int32).toInt = -3) ∨ (0 ≤ w.toInt ∧ w.toInt < (i 5).toInt ∧ 0 ≤ w2.toInt ∧ w2.toInt < (i 5).toInt ∧ 0 ≤ s1.toInt ∧ s1.toInt ≤ 3 ∧ ¬ (c 63 w.toNatClampNeg).toInt = 0 ∧ ¬ (c 63 w2.toNatClampNeg).toInt = 0 ∧ (c 60 w.toNatClampNeg).toInt = s1.toInt ∧ (c 60 w2.toNatClampNeg).toInt = s1.toInt ∧ 0 ≤ n1.toInt ∧ 0 ≤ n2.toInt ∧ 0 ≤ n3.toInt ∧ n1.toInt + n3.toInt ≤ (c 61 w.toNatClampNeg).toInt ∧ n2.toInt + n3.toInt ≤ (c 61 w2.toNatClampNeg).toInt ∧ ((-3) : Int32).toInt = 1) from by have h50 : ((-3) : Int32).toInt = -3 := (by decide); omega)⟩
                        · have f60 := mt (lc_gt (a := (n1.toInt + n3.toInt)) (b := x59.toInt) tx58 ((Int32.toInt_toInt64 x59).trans rfl)).mpr c60
                          refine lv_iload hx hb dX12_copy_133 (lv_at hl 5 rfl) ?_
                          refine lv_i2l (v := n2.toInt64) hx hb dX12_copy_135 rfl ?_
                          refine lv_iload hx hb dX12_copy_136 (lv_at hl 6 rfl) ?_
                          refine lv_i2l (v := n3.toInt64) hx hb dX12_copy_138 rfl ?_
                          refine lv_ladd hx hb dX12_copy_139 ?_
                          refine lv_topl (fun x62 ex62 => ?_)
                          have ib62_n2 := i32b n2
                          have ib62_n3 := i32b n3
                          have tx62 := ti_addl (a := n2.toInt) (b := n3.toInt) ex62 ((Int32.toInt_toInt64 n2).trans rfl) ((Int32.toInt_toInt64 n3).trans rfl) (by omega) (by omega)
                          refine lv_aload_n hx hb dX12_copy_140 rfl (lv_at hl 0 rfl) ?_
                          refine mget_61 hx hb hts (fun _ h => List.mem_cons_of_mem _ (List.mem_append_right _ h)) hown hK hP (hts (.fieldLink RX12 129 "TalePlayModel" "lineMany" "[I") (List.mem_cons_of_mem _ (List.mem_append_left _ (List.mem_append_right _ (List.mem_of_getElem? (i := 1) rfl))))) dX12_copy_141 ?_
                          refine lv_iload hx hb dX12_copy_144 (lv_at hl 4 rfl) ?_
                          refine mld_61 hx hb hK hP (vp_in_iff.mpr (by have h9 : w2.toInt = w2.toInt := rfl; omega)) dX12_copy_146 (fun x63 ex63 => ?_)
                          have rx63 : 0 ≤ x63.toInt ∧ x63.toInt ≤ 12 := by rw [ex63]; exact hI.2 61 _
                          have gx63 : (c 61 (w2 : Int32).toNatClampNeg).toInt = x63.toInt := by rw [ex63]
                          refine lv_i2l (v := x63.toInt64) hx hb dX12_copy_147 rfl ?_
                          refine W.lcmp hx hb dX12_copy_148 ?_
                          refine lv_if_le (tgt := 158) hx hb dX12_copy_149 (by decide) (fun c64 => ?_) (fun c64 => ?_)
                          · have f64 := (lc_le (a := (n2.toInt + n3.toInt)) (b := x63.toInt) tx62 ((Int32.toInt_toInt64 x63).trans rfl)).mp c64
                            refine lv_iconst (v := 0) hx hb dX12_copy_158 (by decide) ?_
                            refine lv_istore (lv' := [(7, .int 0), (0, .ref o), (1, .int w), (2, .int s1), (3, .int n1), (4, .int w2), (5, .int n2), (6, .int n3)]) hx hb dX12_copy_159 hl (by decide) rfl (fun ls hl => ?_)
                            have lp65 : ∀ (fu : Nat) (i65 : Nat → Int32) (q65 : Int64) (c65 : Nat → Nat → Int32) (d65 : Nat → Nat → Int64) (y65_7 : Int32), mInv i65 c65 → (∀ k, k ∉ ([] : List Nat) → i65 k = i k) → (∀ k, k ∉ ([] : List Nat) → c65 k = c k) → (0 ≤ y65_7.toInt ∧ y65_7.toInt ≤ 12) → (12 - y65_7.toInt).toNat < fu → ∀ (H : Heap) (locs : List Loc) (ls : Array Slot), va_P D vwCl (mW o a t i65 q65 c65 d65) H → va_D A (mW o a t i65 q65 c65 d65) → va_S A s.heap H locs → lv_has ls 8 [(7, .int y65_7), (0, .ref o), (1, .int w), (2, .int s1), (3, .int n1), (4, .int w2), (5, .int n2), (6, .int n3)] → W p l e (headSpec wm_X12_copy ({ frames := 2, cells := 0, slots := 0, locals := 46 })).room s m ([.ref o, .int w, .int s1, .int n1, .int w2, .int n2, .int n3] : List Value).toArray below meth cd H locs 0 0 (MQ below (va_Qi (fun (r : Int32) (u : MS) => True ∧ mInv u.1 u.2.2.1 ∧ (∀ k, k ∉ ([0] : List Nat) → u.1 k = i k) ∧ (∀ k, k ∉ ([1] : List Nat) → u.2.2.1 k = c k) ∧ ((¬ (0 ≤ w.toInt ∧ w.toInt < (i 5).toInt ∧ 0 ≤ w2.toInt ∧ w2.toInt < (i 5).toInt ∧ 0 ≤ s1.toInt ∧ s1.toInt ≤ 3) ∧ r.toInt = -1) ∨ (0 ≤ w.toInt ∧ w.toInt < (i 5).toInt ∧ 0 ≤ w2.toInt ∧ w2.toInt < (i 5).toInt ∧ 0 ≤ s1.toInt ∧ s1.toInt ≤ 3 ∧ ¬ (¬ (c 63 w.toNatClampNeg).toInt = 0 ∧ ¬ (c 63 w2.toNatClampNeg).toInt = 0 ∧ (c 60 w.toNatClampNeg).toInt = s1.toInt ∧ (c 60 w2.toNatClampNeg).toInt = s1.toInt ∧ 0 ≤ n1.toInt ∧ 0 ≤ n2.toInt ∧ 0 ≤ n3.toInt ∧ n1.toInt + n3.toInt ≤ (c 61 w.toNatClampNeg).toInt ∧ n2.toInt + n3.toInt ≤ (c 61 w2.toNatClampNeg).toInt) ∧ r.toInt = -3) ∨ (0 ≤ w.toInt ∧ w.toInt < (i 5).toInt ∧ 0 ≤ w2.toInt ∧ w2.toInt < (i 5).toInt ∧ 0 ≤ s1.toInt ∧ s1.toInt ≤ 3 ∧ ¬ (c 63 w.toNatClampNeg).toInt = 0 ∧ ¬ (c 63 w2.toNatClampNeg).toInt = 0 ∧ (c 60 w.toNatClampNeg).toInt = s1.toInt ∧ (c 60 w2.toNatClampNeg).toInt = s1.toInt ∧ 0 ≤ n1.toInt ∧ 0 ≤ n2.toInt ∧ 0 ≤ n3.toInt ∧ n1.toInt + n3.toInt ≤ (c 61 w.toNatClampNeg).toInt ∧ n2.toInt + n3.toInt ≤ (c 61 w2.toNatClampNeg).toInt ∧ r.toInt = 1))) (oC D A (fun u : MS => mW o a t u.1 u.2.1 u.2.2.1 u.2.2.2) (fun _ => [])) A) ([.ref o, .int w, .int s1, .int n1, .int w2, .int n2, .int n3] : List Value).toArray s 0 0 A) (F0 m 161 ls []) := by
                              intro fu
                              induction fu with
                              | zero => intro i65 q65 c65 d65 y65_7 hI hfi hfc hy65_7 hm; exact absurd hm (Nat.not_lt_zero _)
                              | succ fu ih =>
                                intro i65 q65 c65 d65 y65_7 hI hfi hfc hy65_7 hm H locs ls hP hD hS hl
                                have ih65 := ih
                                refine lv_iload hx hb dX12_copy_161 (lv_at hl 0 rfl) ?_
                                refine lv_iload hx hb dX12_copy_163 (lv_at hl 7 rfl) ?_
                                refine lv_icmp_ge (tgt := 195) hx hb dX12_copy_165 (by decide) (fun c66 => ?_) (fun c66 => ?_)
                                · have f66 := (ti_le (a := n3.toInt) (b := y65_7.toInt) rfl rfl).mp c66
                                  refine lv_iconst (v := 0) hx hb dX12_copy_195 (by decide) ?_
                                  refine lv_istore (lv' := [(7, .int 0), (0, .ref o), (1, .int w), (2, .int s1), (3, .int n1), (4, .int w2), (5, .int n2), (6, .int n3)]) hx hb dX12_copy_196 hl (by decide) rfl (fun ls hl => ?_)
                                  have lp67 : ∀ (fu : Nat) (i67 : Nat → Int32) (q67 : Int64) (c67 : Nat → Nat → Int32) (d67 : Nat → Nat → Int64) (y67_7 : Int32), mInv i67 c67 → (∀ k, k ∉ ([] : List Nat) → i67 k = i k) → (∀ k, k ∉ ([] : List Nat) → c67 k = c k) → (0 ≤ y67_7.toInt ∧ y67_7.toInt ≤ 12) → (12 - y67_7.toInt).toNat < fu → ∀ (H : Heap) (locs : List Loc) (ls : Array Slot), va_P D vwCl (mW o a t i67 q67 c67 d67) H → va_D A (mW o a t i67 q67 c67 d67) → va_S A s.heap H locs → lv_has ls 8 [(7, .int y67_7), (0, .ref o), (1, .int w), (2, .int s1), (3, .int n1), (4, .int w2), (5, .int n2), (6, .int n3)] → W p l e (headSpec wm_X12_copy ({ frames := 2, cells := 0, slots := 0, locals := 46 })).room s m ([.ref o, .int w, .int s1, .int n1, .int w2, .int n2, .int n3] : List Value).toArray below meth cd H locs 0 0 (MQ below (va_Qi (fun (r : Int32) (u : MS) => True ∧ mInv u.1 u.2.2.1 ∧ (∀ k, k ∉ ([0] : List Nat) → u.1 k = i k) ∧ (∀ k, k ∉ ([1] : List Nat) → u.2.2.1 k = c k) ∧ ((¬ (0 ≤ w.toInt ∧ w.toInt < (i 5).toInt ∧ 0 ≤ w2.toInt ∧ w2.toInt < (i 5).toInt ∧ 0 ≤ s1.toInt ∧ s1.toInt ≤ 3) ∧ r.toInt = -1) ∨ (0 ≤ w.toInt ∧ w.toInt < (i 5).toInt ∧ 0 ≤ w2.toInt ∧ w2.toInt < (i 5).toInt ∧ 0 ≤ s1.toInt ∧ s1.toInt ≤ 3 ∧ ¬ (¬ (c 63 w.toNatClampNeg).toInt = 0 ∧ ¬ (c 63 w2.toNatClampNeg).toInt = 0 ∧ (c 60 w.toNatClampNeg).toInt = s1.toInt ∧ (c 60 w2.toNatClampNeg).toInt = s1.toInt ∧ 0 ≤ n1.toInt ∧ 0 ≤ n2.toInt ∧ 0 ≤ n3.toInt ∧ n1.toInt + n3.toInt ≤ (c 61 w.toNatClampNeg).toInt ∧ n2.toInt + n3.toInt ≤ (c 61 w2.toNatClampNeg).toInt) ∧ r.toInt = -3) ∨ (0 ≤ w.toInt ∧ w.toInt < (i 5).toInt ∧ 0 ≤ w2.toInt ∧ w2.toInt < (i 5).toInt ∧ 0 ≤ s1.toInt ∧ s1.toInt ≤ 3 ∧ ¬ (c 63 w.toNatClampNeg).toInt = 0 ∧ ¬ (c 63 w2.toNatClampNeg).toInt = 0 ∧ (c 60 w.toNatClampNeg).toInt = s1.toInt ∧ (c 60 w2.toNatClampNeg).toInt = s1.toInt ∧ 0 ≤ n1.toInt ∧ 0 ≤ n2.toInt ∧ 0 ≤ n3.toInt ∧ n1.toInt + n3.toInt ≤ (c 61 w.toNatClampNeg).toInt ∧ n2.toInt + n3.toInt ≤ (c 61 w2.toNatClampNeg).toInt ∧ r.toInt = 1))) (oC D A (fun u : MS => mW o a t u.1 u.2.1 u.2.2.1 u.2.2.2) (fun _ => [])) A) ([.ref o, .int w, .int s1, .int n1, .int w2, .int n2, .int n3] : List Value).toArray s 0 0 A) (F0 m 198 ls []) := by
                                    intro fu
                                    induction fu with
                                    | zero => intro i67 q67 c67 d67 y67_7 hI hfi hfc hy67_7 hm; exact absurd hm (Nat.not_lt_zero _)
                                    | succ fu ih =>
                                      intro i67 q67 c67 d67 y67_7 hI hfi hfc hy67_7 hm H locs ls hP hD hS hl
                                      have ih67 := ih
                                      refine lv_iload hx hb dX12_copy_198 (lv_at hl 0 rfl) ?_
                                      refine lv_iload hx hb dX12_copy_200 (lv_at hl 7 rfl) ?_
                                      refine lv_icmp_ge (tgt := 234) hx hb dX12_copy_202 (by decide) (fun c68 => ?_) (fun c68 => ?_)
                                      · have f68 := (ti_le (a := n3.toInt) (b := y67_7.toInt) rfl rfl).mp c68
                                        refine lv_iconst (v := 1) hx hb dX12_copy_234 (by decide) ?_
                                        exact rw_iret (i67, q67, c67, d67) hx hb hr hlocks hS (hK.sub (tys' := []) [] rfl) hP hD dX12_copy_235 ⟨trivial, hI, fr_w hfi (by decide), fr_w hfc (by decide), (show (¬ (0 ≤ w.toInt ∧ w.toInt < (i 5).toInt ∧ 0 ≤ w2.toInt ∧ w2.toInt < (i 5).toInt ∧ 0 ≤ s1.toInt ∧ s1.toInt ≤ 3) ∧ (1 : Int32).toInt = -1) ∨ (0 ≤ w.toInt ∧ w.toInt < (i 5).toInt ∧ 0 ≤ w2.toInt ∧ w2.toInt < (i 5).toInt ∧ 0 ≤ s1.toInt ∧ s1.toInt ≤ 3 ∧ ¬ (¬ (c 63 w.toNatClampNeg).toInt = 0 ∧ ¬ (c 63 w2.toNatClampNeg).toInt = 0 ∧ (c 60 w.toNatClampNeg).toInt = s1.toInt ∧ (c 60 w2.toNatClampNeg).toInt = s1.toInt ∧ 0 ≤ n1.toInt ∧ 0 ≤ n2.toInt ∧ 0 ≤ n3.toInt ∧ n1.toInt + n3.toInt ≤ (c 61 w.toNatClampNeg).toInt ∧ n2.toInt + n3.toInt ≤ (c 61 w2.toNatClampNeg).toInt) ∧ (1 : Int32).toInt = -3) ∨ (0 ≤ w.toInt ∧ w.toInt < (i 5).toInt ∧ 0 ≤ w2.toInt ∧ w2.toInt < (i 5).toInt ∧ 0 ≤ s1.toInt ∧ s1.toInt ≤ 3 ∧ ¬ (c 63 w.toNatClampNeg).toInt = 0 ∧ ¬ (c 63 w2.toNatClampNeg).toInt = 0 ∧ (c 60 w.toNatClampNeg).toInt = s1.toInt ∧ (c 60 w2.toNatClampNeg).toInt = s1.toInt ∧ 0 ≤ n1.toInt ∧ 0 ≤ n2.toInt ∧ 0 ≤ n3.toInt ∧ n1.toInt + n3.toInt ≤ (c 61 w.toNatClampNeg).toInt ∧ n2.toInt + n3.toInt ≤ (c 61 w2.toNatClampNeg).toInt ∧ (1 : Int32).toInt = 1) from by have h50 : (1 : Int32).toInt = 1 := (by decide); omega)⟩
                                      · have f68 := mt (ti_le (a := n3.toInt) (b := y67_7.toInt) rfl rfl).mpr c68
                                        refine lv_aload_n hx hb dX12_copy_205 rfl (lv_at hl 1 rfl) ?_
                                        refine mget_62 hx hb hts (fun _ h => List.mem_cons_of_mem _ (List.mem_append_right _ h)) hown hK hP (hts (.fieldLink RX12 132 "TalePlayModel" "items" "[J") (List.mem_cons_of_mem _ (List.mem_append_left _ (List.mem_append_right _ (List.mem_of_getElem? (i := 2) rfl))))) dX12_copy_206 ?_
                                        refine lv_bipush (v := 12) hx hb dX12_copy_209 (by decide) ?_
                                        refine lv_iload hx hb dX12_copy_211 (lv_at hl 5 rfl) ?_
                                        refine lv_imul hx hb dX12_copy_213 ?_
                                        refine lv_topi (fun x69 ex69 => ?_)
                                        have tx69 := ti_mul (a := 12) (b := w2.toInt) ex69 (by decide) rfl (by omega) (by omega)
                                        refine lv_iload hx hb dX12_copy_214 (lv_at hl 6 rfl) ?_
                                        refine lv_iadd hx hb dX12_copy_216 ?_
                                        refine lv_topi (fun x70 ex70 => ?_)
                                        have tx70 := ti_add (a := (12 * w2.toInt)) (b := n2.toInt) ex70 tx69 rfl (by omega) (by omega)
                                        refine lv_iload hx hb dX12_copy_217 (lv_at hl 0 rfl) ?_
                                        refine lv_iadd hx hb dX12_copy_219 ?_
                                        refine lv_topi (fun x71 ex71 => ?_)
                                        have tx71 := ti_add (a := ((12 * w2.toInt) + n2.toInt)) (b := y67_7.toInt) ex71 tx70 rfl (by omega) (by omega)
                                        refine lv_aload_n hx hb dX12_copy_220 rfl (lv_at hl 1 rfl) ?_
                                        refine mget_68 hx hb hts (fun _ h => List.mem_cons_of_mem _ (List.mem_append_right _ h)) hown hK hP (hts (.fieldLink RX12 148 "TalePlayModel" "held" "[J") (List.mem_cons_of_mem _ (List.mem_append_left _ (List.mem_append_right _ (List.mem_of_getElem? (i := 3) rfl))))) dX12_copy_221 ?_
                                        refine lv_iload hx hb dX12_copy_224 (lv_at hl 0 rfl) ?_
                                        refine mld_68 hx hb hK hP (vp_in_iff.mpr (by have h9 : y67_7.toInt = y67_7.toInt := rfl; omega)) dX12_copy_226 (fun x72 ex72 => ?_)
                                        refine mst_62 hx hb hK hP hD hS (vp_in_iff.mpr (by have h9 : x71.toInt = (((12 * w2.toInt) + n2.toInt) + y67_7.toInt) := tx71; omega)) dX12_copy_227 (fun H locs hP hD hS => ?_)
                                        obtain ⟨x73, ex73⟩ : ∃ y : Int32, y = y67_7 + 1 := ⟨_, rfl⟩
                                        have tx73 := ti_add (a := y67_7.toInt) (b := 1) ex73 rfl (by decide) (by omega) (by omega)
                                        refine lv_iinc (v := x73) (lv' := [(7, .int x73), (0, .ref o), (1, .int w), (2, .int s1), (3, .int n1), (4, .int w2), (5, .int n2), (6, .int n3)]) hx hb dX12_copy_228 hl (k := 0) rfl (by rw [ex73]; rfl) (by decide) rfl (fun ls hl => ?_)
                                        refine lv_goto (tgt := 198) hx hb dX12_copy_231 (by decide) ?_
                                        exact ih67 i67 q67 c67 (updD d67 62 (x71 : Int32).toNatClampNeg x72) x73 hI (fr_w hfi (by decide)) (fr_w hfc (by decide)) (show 0 ≤ x73.toInt ∧ x73.toInt ≤ 12 from by have h50 : x73.toInt = (y67_7.toInt + 1) := tx73; omega) (by have h50 : x73.toInt = (y67_7.toInt + 1) := tx73; omega) _ _ _ hP hD hS (lv_sub hl [0, 1, 2, 3, 4, 5, 6, 7] rfl)
                                  exact lp67 _ i65 q65 c65 d65 (0 : Int32) hI (fr_w hfi (by decide)) (fr_w hfc (by decide)) (show 0 ≤ (0 : Int32).toInt ∧ (0 : Int32).toInt ≤ 12 from by have h50 : (0 : Int32).toInt = 0 := (by decide); omega) (Nat.lt_succ_self _) _ _ _ hP hD hS (lv_sub hl [0, 1, 2, 3, 4, 5, 6, 7] rfl)
                                · have f66 := mt (ti_le (a := n3.toInt) (b := y65_7.toInt) rfl rfl).mpr c66
                                  refine lv_aload_n hx hb dX12_copy_168 rfl (lv_at hl 1 rfl) ?_
                                  refine mget_68 hx hb hts (fun _ h => List.mem_cons_of_mem _ (List.mem_append_right _ h)) hown hK hP (hts (.fieldLink RX12 148 "TalePlayModel" "held" "[J") (List.mem_cons_of_mem _ (List.mem_append_left _ (List.mem_append_right _ (List.mem_of_getElem? (i := 3) rfl))))) dX12_copy_169 ?_
                                  refine lv_iload hx hb dX12_copy_172 (lv_at hl 0 rfl) ?_
                                  refine lv_aload_n hx hb dX12_copy_174 rfl (lv_at hl 1 rfl) ?_
                                  refine mget_62 hx hb hts (fun _ h => List.mem_cons_of_mem _ (List.mem_append_right _ h)) hown hK hP (hts (.fieldLink RX12 132 "TalePlayModel" "items" "[J") (List.mem_cons_of_mem _ (List.mem_append_left _ (List.mem_append_right _ (List.mem_of_getElem? (i := 2) rfl))))) dX12_copy_175 ?_
                                  refine lv_bipush (v := 12) hx hb dX12_copy_178 (by decide) ?_
                                  refine lv_iload_n hx hb dX12_copy_180 rfl (lv_at hl 2 rfl) ?_
                                  refine lv_imul hx hb dX12_copy_181 ?_
                                  refine lv_topi (fun x74 ex74 => ?_)
                                  have tx74 := ti_mul (a := 12) (b := w.toInt) ex74 (by decide) rfl (by omega) (by omega)
                                  refine lv_iload_n hx hb dX12_copy_182 rfl (lv_at hl 4 rfl) ?_
                                  refine lv_iadd hx hb dX12_copy_183 ?_
                                  refine lv_topi (fun x75 ex75 => ?_)
                                  have tx75 := ti_add (a := (12 * w.toInt)) (b := n1.toInt) ex75 tx74 rfl (by omega) (by omega)
                                  refine lv_iload hx hb dX12_copy_184 (lv_at hl 0 rfl) ?_
                                  refine lv_iadd hx hb dX12_copy_186 ?_
                                  refine lv_topi (fun x76 ex76 => ?_)
                                  have tx76 := ti_add (a := ((12 * w.toInt) + n1.toInt)) (b := y65_7.toInt) ex76 tx75 rfl (by omega) (by omega)
                                  refine mld_62 hx hb hK hP (vp_in_iff.mpr (by have h9 : x76.toInt = (((12 * w.toInt) + n1.toInt) + y65_7.toInt) := tx76; omega)) dX12_copy_187 (fun x77 ex77 => ?_)
                                  refine mst_68 hx hb hK hP hD hS (vp_in_iff.mpr (by have h9 : y65_7.toInt = y65_7.toInt := rfl; omega)) dX12_copy_188 (fun H locs hP hD hS => ?_)
                                  obtain ⟨x78, ex78⟩ : ∃ y : Int32, y = y65_7 + 1 := ⟨_, rfl⟩
                                  have tx78 := ti_add (a := y65_7.toInt) (b := 1) ex78 rfl (by decide) (by omega) (by omega)
                                  refine lv_iinc (v := x78) (lv' := [(7, .int x78), (0, .ref o), (1, .int w), (2, .int s1), (3, .int n1), (4, .int w2), (5, .int n2), (6, .int n3)]) hx hb dX12_copy_189 hl (k := 0) rfl (by rw [ex78]; rfl) (by decide) rfl (fun ls hl => ?_)
                                  refine lv_goto (tgt := 161) hx hb dX12_copy_192 (by decide) ?_
                                  exact ih65 i65 q65 c65 (updD d65 68 (y65_7 : Int32).toNatClampNeg x77) x78 hI (fr_w hfi (by decide)) (fr_w hfc (by decide)) (show 0 ≤ x78.toInt ∧ x78.toInt ≤ 12 from by have h50 : x78.toInt = (y65_7.toInt + 1) := tx78; omega) (by have h50 : x78.toInt = (y65_7.toInt + 1) := tx78; omega) _ _ _ hP hD hS (lv_sub hl [0, 1, 2, 3, 4, 5, 6, 7] rfl)
                            exact lp65 _ i q c d (0 : Int32) hI (fr_w hfi (by decide)) (fr_w hfc (by decide)) (show 0 ≤ (0 : Int32).toInt ∧ (0 : Int32).toInt ≤ 12 from by have h50 : (0 : Int32).toInt = 0 := (by decide); omega) (Nat.lt_succ_self _) _ _ _ hP hD hS (lv_sub hl [0, 1, 2, 3, 4, 5, 6, 7] rfl)
                          · have f64 := mt (lc_le (a := (n2.toInt + n3.toInt)) (b := x63.toInt) tx62 ((Int32.toInt_toInt64 x63).trans rfl)).mpr c64
                            refine lv_aload_n hx hb dX12_copy_152 rfl (lv_at hl 0 rfl) ?_
                            refine lv_iconst (v := 2) hx hb dX12_copy_153 (by decide) ?_
                            refine al_calli (va_runV (As := [.int 2]) (rest := []) ⟨hx, hb, hml, hown, hts⟩ (s_X12_meets l D H.size o a t i q c d 2 hI (show 1 ≤ 2 ∧ 2 ≤ 6 from by have h90 : (2 : Int32).toInt = 2 := (by decide); omega)) (cwV 1 hts gm_X12_copy_X12_meets rfl rfl rfl (by decide +kernel) ⟨Nat.le_of_ble_eq_true rfl, Nat.le_of_ble_eq_true rfl⟩) (pB_V hK hP hD (ci := 12) (q0 := 0) rfl rfl) rfl rfl hl.1 rfl (lv_room (Nat.le_of_ble_eq_true rfl)) dX12_copy_154 ⟨Nat.le_of_ble_eq_true rfl, Nat.le_of_ble_eq_true rfl⟩) hS hA hP hD (fun r79 u79 H locs hw79 hP hD hS => ?_)
                            obtain ⟨i79, q79, c79, d79⟩ := u79
                            have hw79 : r79 = (-3) ∧ mInv i79 c79 ∧ (∀ k, k ∉ ([0] : List Nat) → i79 k = i k) ∧ (∀ k, k ∉ ([1] : List Nat) → c79 k = c k) := hw79
                            obtain ⟨hw79, hI, hei79, hec79⟩ := hw79
                            have hfi : ∀ k, k ∉ ([0] : List Nat) → i79 k = i k := fr_z hfi hei79 (by decide) (by decide)
                            have hfc : ∀ k, k ∉ ([1] : List Nat) → c79 k = c k := fr_z hfc hec79 (by decide) (by decide)
                            have hP : va_P D vwCl (mW o a t i79 q79 c79 d79) H := hP
                            have hD : va_D A (mW o a t i79 q79 c79 d79) := hD
                            have hw79 : r79 = (-3) := hw79
                            subst hw79
                            exact rw_iret (i79, q79, c79, d79) hx hb hr hlocks hS (hK.sub (tys' := []) [] rfl) hP hD dX12_copy_157 ⟨trivial, hI, fr_w hfi (by decide), fr_w hfc (by decide), (show (¬ (0 ≤ w.toInt ∧ w.toInt < (i 5).toInt ∧ 0 ≤ w2.toInt ∧ w2.toInt < (i 5).toInt ∧ 0 ≤ s1.toInt ∧ s1.toInt ≤ 3) ∧ ((-3) : Int32).toInt = -1) ∨ (0 ≤ w.toInt ∧ w.toInt < (i 5).toInt ∧ 0 ≤ w2.toInt ∧ w2.toInt < (i 5).toInt ∧ 0 ≤ s1.toInt ∧ s1.toInt ≤ 3 ∧ ¬ (¬ (c 63 w.toNatClampNeg).toInt = 0 ∧ ¬ (c 63 w2.toNatClampNeg).toInt = 0 ∧ (c 60 w.toNatClampNeg).toInt = s1.toInt ∧ (c 60 w2.toNatClampNeg).toInt = s1.toInt ∧ 0 ≤ n1.toInt ∧ 0 ≤ n2.toInt ∧ 0 ≤ n3.toInt ∧ n1.toInt + n3.toInt ≤ (c 61 w.toNatClampNeg).toInt ∧ n2.toInt + n3.toInt ≤ (c 61 w2.toNatClampNeg).toInt) ∧ ((-3) : Int32).toInt = -3) ∨ (0 ≤ w.toInt ∧ w.toInt < (i 5).toInt ∧ 0 ≤ w2.toInt ∧ w2.toInt < (i 5).toInt ∧ 0 ≤ s1.toInt ∧ s1.toInt ≤ 3 ∧ ¬ (c 63 w.toNatClampNeg).toInt = 0 ∧ ¬ (c 63 w2.toNatClampNeg).toInt = 0 ∧ (c 60 w.toNatClampNeg).toInt = s1.toInt ∧ (c 60 w2.toNatClampNeg).toInt = s1.toInt ∧ 0 ≤ n1.toInt ∧ 0 ≤ n2.toInt ∧ 0 ≤ n3.toInt ∧ n1.toInt + n3.toInt ≤ (c 61 w.toNatClampNeg).toInt ∧ n2.toInt + n3.toInt ≤ (c 61 w2.toNatClampNeg).toInt ∧ ((-3) : Int32).toInt = 1) from by have h50 : ((-3) : Int32).toInt = -3 := (by decide); omega)⟩
                · have f51 := (ti_eq (a := x50.toInt) (b := 0) rfl (by decide)).mp c51
                  refine lv_aload_n hx hb dX12_copy_96 rfl (lv_at hl 0 rfl) ?_
                  refine lv_iconst (v := 1) hx hb dX12_copy_97 (by decide) ?_
                  refine al_calli (va_runV (As := [.int 1]) (rest := []) ⟨hx, hb, hml, hown, hts⟩ (s_X12_meets l D H.size o a t i q c d 1 hI (show 1 ≤ 1 ∧ 1 ≤ 6 from by have h90 : (1 : Int32).toInt = 1 := (by decide); omega)) (cwV 1 hts gm_X12_copy_X12_meets rfl rfl rfl (by decide +kernel) ⟨Nat.le_of_ble_eq_true rfl, Nat.le_of_ble_eq_true rfl⟩) (pB_V hK hP hD (ci := 12) (q0 := 0) rfl rfl) rfl rfl hl.1 rfl (lv_room (Nat.le_of_ble_eq_true rfl)) dX12_copy_98 ⟨Nat.le_of_ble_eq_true rfl, Nat.le_of_ble_eq_true rfl⟩) hS hA hP hD (fun r80 u80 H locs hw80 hP hD hS => ?_)
                  obtain ⟨i80, q80, c80, d80⟩ := u80
                  have hw80 : r80 = (-3) ∧ mInv i80 c80 ∧ (∀ k, k ∉ ([0] : List Nat) → i80 k = i k) ∧ (∀ k, k ∉ ([1] : List Nat) → c80 k = c k) := hw80
                  obtain ⟨hw80, hI, hei80, hec80⟩ := hw80
                  have hfi : ∀ k, k ∉ ([0] : List Nat) → i80 k = i k := fr_z hfi hei80 (by decide) (by decide)
                  have hfc : ∀ k, k ∉ ([1] : List Nat) → c80 k = c k := fr_z hfc hec80 (by decide) (by decide)
                  have hP : va_P D vwCl (mW o a t i80 q80 c80 d80) H := hP
                  have hD : va_D A (mW o a t i80 q80 c80 d80) := hD
                  have hw80 : r80 = (-3) := hw80
                  subst hw80
                  exact rw_iret (i80, q80, c80, d80) hx hb hr hlocks hS (hK.sub (tys' := []) [] rfl) hP hD dX12_copy_101 ⟨trivial, hI, fr_w hfi (by decide), fr_w hfc (by decide), (show (¬ (0 ≤ w.toInt ∧ w.toInt < (i 5).toInt ∧ 0 ≤ w2.toInt ∧ w2.toInt < (i 5).toInt ∧ 0 ≤ s1.toInt ∧ s1.toInt ≤ 3) ∧ ((-3) : Int32).toInt = -1) ∨ (0 ≤ w.toInt ∧ w.toInt < (i 5).toInt ∧ 0 ≤ w2.toInt ∧ w2.toInt < (i 5).toInt ∧ 0 ≤ s1.toInt ∧ s1.toInt ≤ 3 ∧ ¬ (¬ (c 63 w.toNatClampNeg).toInt = 0 ∧ ¬ (c 63 w2.toNatClampNeg).toInt = 0 ∧ (c 60 w.toNatClampNeg).toInt = s1.toInt ∧ (c 60 w2.toNatClampNeg).toInt = s1.toInt ∧ 0 ≤ n1.toInt ∧ 0 ≤ n2.toInt ∧ 0 ≤ n3.toInt ∧ n1.toInt + n3.toInt ≤ (c 61 w.toNatClampNeg).toInt ∧ n2.toInt + n3.toInt ≤ (c 61 w2.toNatClampNeg).toInt) ∧ ((-3) : Int32).toInt = -3) ∨ (0 ≤ w.toInt ∧ w.toInt < (i 5).toInt ∧ 0 ≤ w2.toInt ∧ w2.toInt < (i 5).toInt ∧ 0 ≤ s1.toInt ∧ s1.toInt ≤ 3 ∧ ¬ (c 63 w.toNatClampNeg).toInt = 0 ∧ ¬ (c 63 w2.toNatClampNeg).toInt = 0 ∧ (c 60 w.toNatClampNeg).toInt = s1.toInt ∧ (c 60 w2.toNatClampNeg).toInt = s1.toInt ∧ 0 ≤ n1.toInt ∧ 0 ≤ n2.toInt ∧ 0 ≤ n3.toInt ∧ n1.toInt + n3.toInt ≤ (c 61 w.toNatClampNeg).toInt ∧ n2.toInt + n3.toInt ≤ (c 61 w2.toNatClampNeg).toInt ∧ ((-3) : Int32).toInt = 1) from by have h50 : ((-3) : Int32).toInt = -3 := (by decide); omega)⟩
            · have f46 := mt (ti_eq (a := x45.toInt) (b := s1.toInt) rfl rfl).mpr c46
              refine lv_aload_n hx hb dX12_copy_71 rfl (lv_at hl 0 rfl) ?_
              refine lv_iconst (v := 3) hx hb dX12_copy_72 (by decide) ?_
              refine al_calli (va_runV (As := [.int 3]) (rest := []) ⟨hx, hb, hml, hown, hts⟩ (s_X12_meets l D H.size o a t i q c d 3 hI (show 1 ≤ 3 ∧ 3 ≤ 6 from by have h90 : (3 : Int32).toInt = 3 := (by decide); omega)) (cwV 1 hts gm_X12_copy_X12_meets rfl rfl rfl (by decide +kernel) ⟨Nat.le_of_ble_eq_true rfl, Nat.le_of_ble_eq_true rfl⟩) (pB_V hK hP hD (ci := 12) (q0 := 0) rfl rfl) rfl rfl hl.1 rfl (lv_room (Nat.le_of_ble_eq_true rfl)) dX12_copy_73 ⟨Nat.le_of_ble_eq_true rfl, Nat.le_of_ble_eq_true rfl⟩) hS hA hP hD (fun r81 u81 H locs hw81 hP hD hS => ?_)
              obtain ⟨i81, q81, c81, d81⟩ := u81
              have hw81 : r81 = (-3) ∧ mInv i81 c81 ∧ (∀ k, k ∉ ([0] : List Nat) → i81 k = i k) ∧ (∀ k, k ∉ ([1] : List Nat) → c81 k = c k) := hw81
              obtain ⟨hw81, hI, hei81, hec81⟩ := hw81
              have hfi : ∀ k, k ∉ ([0] : List Nat) → i81 k = i k := fr_z hfi hei81 (by decide) (by decide)
              have hfc : ∀ k, k ∉ ([1] : List Nat) → c81 k = c k := fr_z hfc hec81 (by decide) (by decide)
              have hP : va_P D vwCl (mW o a t i81 q81 c81 d81) H := hP
              have hD : va_D A (mW o a t i81 q81 c81 d81) := hD
              have hw81 : r81 = (-3) := hw81
              subst hw81
              exact rw_iret (i81, q81, c81, d81) hx hb hr hlocks hS (hK.sub (tys' := []) [] rfl) hP hD dX12_copy_76 ⟨trivial, hI, fr_w hfi (by decide), fr_w hfc (by decide), (show (¬ (0 ≤ w.toInt ∧ w.toInt < (i 5).toInt ∧ 0 ≤ w2.toInt ∧ w2.toInt < (i 5).toInt ∧ 0 ≤ s1.toInt ∧ s1.toInt ≤ 3) ∧ ((-3) : Int32).toInt = -1) ∨ (0 ≤ w.toInt ∧ w.toInt < (i 5).toInt ∧ 0 ≤ w2.toInt ∧ w2.toInt < (i 5).toInt ∧ 0 ≤ s1.toInt ∧ s1.toInt ≤ 3 ∧ ¬ (¬ (c 63 w.toNatClampNeg).toInt = 0 ∧ ¬ (c 63 w2.toNatClampNeg).toInt = 0 ∧ (c 60 w.toNatClampNeg).toInt = s1.toInt ∧ (c 60 w2.toNatClampNeg).toInt = s1.toInt ∧ 0 ≤ n1.toInt ∧ 0 ≤ n2.toInt ∧ 0 ≤ n3.toInt ∧ n1.toInt + n3.toInt ≤ (c 61 w.toNatClampNeg).toInt ∧ n2.toInt + n3.toInt ≤ (c 61 w2.toNatClampNeg).toInt) ∧ ((-3) : Int32).toInt = -3) ∨ (0 ≤ w.toInt ∧ w.toInt < (i 5).toInt ∧ 0 ≤ w2.toInt ∧ w2.toInt < (i 5).toInt ∧ 0 ≤ s1.toInt ∧ s1.toInt ≤ 3 ∧ ¬ (c 63 w.toNatClampNeg).toInt = 0 ∧ ¬ (c 63 w2.toNatClampNeg).toInt = 0 ∧ (c 60 w.toNatClampNeg).toInt = s1.toInt ∧ (c 60 w2.toNatClampNeg).toInt = s1.toInt ∧ 0 ≤ n1.toInt ∧ 0 ≤ n2.toInt ∧ 0 ≤ n3.toInt ∧ n1.toInt + n3.toInt ≤ (c 61 w.toNatClampNeg).toInt ∧ n2.toInt + n3.toInt ≤ (c 61 w2.toNatClampNeg).toInt ∧ ((-3) : Int32).toInt = 1) from by have h50 : ((-3) : Int32).toInt = -3 := (by decide); omega)⟩
        · have f8 := mt (ti_eq (a := x7.toInt) (b := 0) rfl (by decide)).mpr c8
          refine lv_aload_n hx hb dX12_copy_40 rfl (lv_at hl 0 rfl) ?_
          refine mget_60 hx hb hts (fun _ h => List.mem_cons_of_mem _ (List.mem_append_right _ h)) hown hK hP (hts (.fieldLink RX12 126 "TalePlayModel" "lineSort" "[I") (List.mem_cons_of_mem _ (List.mem_append_left _ (List.mem_append_right _ (List.mem_of_getElem? (i := 4) rfl))))) dX12_copy_41 ?_
          refine lv_iload_n hx hb dX12_copy_44 rfl (lv_at hl 1 rfl) ?_
          refine mld_60 hx hb hK hP (vp_in_iff.mpr (by have h9 : w.toInt = w.toInt := rfl; omega)) dX12_copy_45 (fun x82 ex82 => ?_)
          have rx82 : 0 ≤ x82.toInt ∧ x82.toInt ≤ 3 := by rw [ex82]; exact hI.2 60 _
          have gx82 : (c 60 (w : Int32).toNatClampNeg).toInt = x82.toInt := by rw [ex82]
          refine lv_iload_n hx hb dX12_copy_46 rfl (lv_at hl 2 rfl) ?_
          refine lv_icmp_ne (tgt := 71) hx hb dX12_copy_47 (by decide) (fun c83 => ?_) (fun c83 => ?_)
          · have f83 := mt (ti_eq (a := x82.toInt) (b := s1.toInt) rfl rfl).mpr c83
            refine lv_aload_n hx hb dX12_copy_71 rfl (lv_at hl 0 rfl) ?_
            refine lv_iconst (v := 3) hx hb dX12_copy_72 (by decide) ?_
            refine al_calli (va_runV (As := [.int 3]) (rest := []) ⟨hx, hb, hml, hown, hts⟩ (s_X12_meets l D H.size o a t i q c d 3 hI (show 1 ≤ 3 ∧ 3 ≤ 6 from by have h90 : (3 : Int32).toInt = 3 := (by decide); omega)) (cwV 1 hts gm_X12_copy_X12_meets rfl rfl rfl (by decide +kernel) ⟨Nat.le_of_ble_eq_true rfl, Nat.le_of_ble_eq_true rfl⟩) (pB_V hK hP hD (ci := 12) (q0 := 0) rfl rfl) rfl rfl hl.1 rfl (lv_room (Nat.le_of_ble_eq_true rfl)) dX12_copy_73 ⟨Nat.le_of_ble_eq_true rfl, Nat.le_of_ble_eq_true rfl⟩) hS hA hP hD (fun r84 u84 H locs hw84 hP hD hS => ?_)
            obtain ⟨i84, q84, c84, d84⟩ := u84
            have hw84 : r84 = (-3) ∧ mInv i84 c84 ∧ (∀ k, k ∉ ([0] : List Nat) → i84 k = i k) ∧ (∀ k, k ∉ ([1] : List Nat) → c84 k = c k) := hw84
            obtain ⟨hw84, hI, hei84, hec84⟩ := hw84
            have hfi : ∀ k, k ∉ ([0] : List Nat) → i84 k = i k := fr_z hfi hei84 (by decide) (by decide)
            have hfc : ∀ k, k ∉ ([1] : List Nat) → c84 k = c k := fr_z hfc hec84 (by decide) (by decide)
            have hP : va_P D vwCl (mW o a t i84 q84 c84 d84) H := hP
            have hD : va_D A (mW o a t i84 q84 c84 d84) := hD
            have hw84 : r84 = (-3) := hw84
            subst hw84
            exact rw_iret (i84, q84, c84, d84) hx hb hr hlocks hS (hK.sub (tys' := []) [] rfl) hP hD dX12_copy_76 ⟨trivial, hI, fr_w hfi (by decide), fr_w hfc (by decide), (show (¬ (0 ≤ w.toInt ∧ w.toInt < (i 5).toInt ∧ 0 ≤ w2.toInt ∧ w2.toInt < (i 5).toInt ∧ 0 ≤ s1.toInt ∧ s1.toInt ≤ 3) ∧ ((-3) : Int32).toInt = -1) ∨ (0 ≤ w.toInt ∧ w.toInt < (i 5).toInt ∧ 0 ≤ w2.toInt ∧ w2.toInt < (i 5).toInt ∧ 0 ≤ s1.toInt ∧ s1.toInt ≤ 3 ∧ ¬ (¬ (c 63 w.toNatClampNeg).toInt = 0 ∧ ¬ (c 63 w2.toNatClampNeg).toInt = 0 ∧ (c 60 w.toNatClampNeg).toInt = s1.toInt ∧ (c 60 w2.toNatClampNeg).toInt = s1.toInt ∧ 0 ≤ n1.toInt ∧ 0 ≤ n2.toInt ∧ 0 ≤ n3.toInt ∧ n1.toInt + n3.toInt ≤ (c 61 w.toNatClampNeg).toInt ∧ n2.toInt + n3.toInt ≤ (c 61 w2.toNatClampNeg).toInt) ∧ ((-3) : Int32).toInt = -3) ∨ (0 ≤ w.toInt ∧ w.toInt < (i 5).toInt ∧ 0 ≤ w2.toInt ∧ w2.toInt < (i 5).toInt ∧ 0 ≤ s1.toInt ∧ s1.toInt ≤ 3 ∧ ¬ (c 63 w.toNatClampNeg).toInt = 0 ∧ ¬ (c 63 w2.toNatClampNeg).toInt = 0 ∧ (c 60 w.toNatClampNeg).toInt = s1.toInt ∧ (c 60 w2.toNatClampNeg).toInt = s1.toInt ∧ 0 ≤ n1.toInt ∧ 0 ≤ n2.toInt ∧ 0 ≤ n3.toInt ∧ n1.toInt + n3.toInt ≤ (c 61 w.toNatClampNeg).toInt ∧ n2.toInt + n3.toInt ≤ (c 61 w2.toNatClampNeg).toInt ∧ ((-3) : Int32).toInt = 1) from by have h50 : ((-3) : Int32).toInt = -3 := (by decide); omega)⟩
          · have f83 := (ti_eq (a := x82.toInt) (b := s1.toInt) rfl rfl).mp c83
            refine lv_aload_n hx hb dX12_copy_50 rfl (lv_at hl 0 rfl) ?_
            refine mget_63 hx hb hts (fun _ h => List.mem_cons_of_mem _ (List.mem_append_right _ h)) hown hK hP (hts (.fieldLink RX12 136 "TalePlayModel" "hasLine" "[Z") (List.mem_cons_of_mem _ (List.mem_append_left _ (List.mem_append_left _ (List.mem_of_getElem? (i := 10) rfl))))) dX12_copy_51 ?_
            refine lv_iload hx hb dX12_copy_54 (lv_at hl 4 rfl) ?_
            refine mld_63 hx hb hK hP (vp_in_iff.mpr (by have h9 : w2.toInt = w2.toInt := rfl; omega)) dX12_copy_56 (fun x85 ex85 => ?_)
            have rx85 : 0 ≤ x85.toInt ∧ x85.toInt ≤ 1 := by rw [ex85]; exact hI.2 63 _
            have gx85 : (c 63 (w2 : Int32).toNatClampNeg).toInt = x85.toInt := by rw [ex85]
            refine lv_if_eq (tgt := 77) hx hb dX12_copy_57 (by decide) (fun c86 => ?_) (fun c86 => ?_)
            · have f86 := (ti_eq (a := x85.toInt) (b := 0) rfl (by decide)).mp c86
              refine lv_aload_n hx hb dX12_copy_77 rfl (lv_at hl 0 rfl) ?_
              refine mget_63 hx hb hts (fun _ h => List.mem_cons_of_mem _ (List.mem_append_right _ h)) hown hK hP (hts (.fieldLink RX12 136 "TalePlayModel" "hasLine" "[Z") (List.mem_cons_of_mem _ (List.mem_append_left _ (List.mem_append_left _ (List.mem_of_getElem? (i := 10) rfl))))) dX12_copy_78 ?_
              refine lv_iload_n hx hb dX12_copy_81 rfl (lv_at hl 1 rfl) ?_
              refine mld_63 hx hb hK hP (vp_in_iff.mpr (by have h9 : w.toInt = w.toInt := rfl; omega)) dX12_copy_82 (fun x87 ex87 => ?_)
              have rx87 : 0 ≤ x87.toInt ∧ x87.toInt ≤ 1 := by rw [ex87]; exact hI.2 63 _
              have gx87 : (c 63 (w : Int32).toNatClampNeg).toInt = x87.toInt := by rw [ex87]
              refine lv_if_eq (tgt := 96) hx hb dX12_copy_83 (by decide) (fun c88 => ?_) (fun c88 => ?_)
              · have f88 := (ti_eq (a := x87.toInt) (b := 0) rfl (by decide)).mp c88
                refine lv_aload_n hx hb dX12_copy_96 rfl (lv_at hl 0 rfl) ?_
                refine lv_iconst (v := 1) hx hb dX12_copy_97 (by decide) ?_
                refine al_calli (va_runV (As := [.int 1]) (rest := []) ⟨hx, hb, hml, hown, hts⟩ (s_X12_meets l D H.size o a t i q c d 1 hI (show 1 ≤ 1 ∧ 1 ≤ 6 from by have h90 : (1 : Int32).toInt = 1 := (by decide); omega)) (cwV 1 hts gm_X12_copy_X12_meets rfl rfl rfl (by decide +kernel) ⟨Nat.le_of_ble_eq_true rfl, Nat.le_of_ble_eq_true rfl⟩) (pB_V hK hP hD (ci := 12) (q0 := 0) rfl rfl) rfl rfl hl.1 rfl (lv_room (Nat.le_of_ble_eq_true rfl)) dX12_copy_98 ⟨Nat.le_of_ble_eq_true rfl, Nat.le_of_ble_eq_true rfl⟩) hS hA hP hD (fun r89 u89 H locs hw89 hP hD hS => ?_)
                obtain ⟨i89, q89, c89, d89⟩ := u89
                have hw89 : r89 = (-3) ∧ mInv i89 c89 ∧ (∀ k, k ∉ ([0] : List Nat) → i89 k = i k) ∧ (∀ k, k ∉ ([1] : List Nat) → c89 k = c k) := hw89
                obtain ⟨hw89, hI, hei89, hec89⟩ := hw89
                have hfi : ∀ k, k ∉ ([0] : List Nat) → i89 k = i k := fr_z hfi hei89 (by decide) (by decide)
                have hfc : ∀ k, k ∉ ([1] : List Nat) → c89 k = c k := fr_z hfc hec89 (by decide) (by decide)
                have hP : va_P D vwCl (mW o a t i89 q89 c89 d89) H := hP
                have hD : va_D A (mW o a t i89 q89 c89 d89) := hD
                have hw89 : r89 = (-3) := hw89
                subst hw89
                exact rw_iret (i89, q89, c89, d89) hx hb hr hlocks hS (hK.sub (tys' := []) [] rfl) hP hD dX12_copy_101 ⟨trivial, hI, fr_w hfi (by decide), fr_w hfc (by decide), (show (¬ (0 ≤ w.toInt ∧ w.toInt < (i 5).toInt ∧ 0 ≤ w2.toInt ∧ w2.toInt < (i 5).toInt ∧ 0 ≤ s1.toInt ∧ s1.toInt ≤ 3) ∧ ((-3) : Int32).toInt = -1) ∨ (0 ≤ w.toInt ∧ w.toInt < (i 5).toInt ∧ 0 ≤ w2.toInt ∧ w2.toInt < (i 5).toInt ∧ 0 ≤ s1.toInt ∧ s1.toInt ≤ 3 ∧ ¬ (¬ (c 63 w.toNatClampNeg).toInt = 0 ∧ ¬ (c 63 w2.toNatClampNeg).toInt = 0 ∧ (c 60 w.toNatClampNeg).toInt = s1.toInt ∧ (c 60 w2.toNatClampNeg).toInt = s1.toInt ∧ 0 ≤ n1.toInt ∧ 0 ≤ n2.toInt ∧ 0 ≤ n3.toInt ∧ n1.toInt + n3.toInt ≤ (c 61 w.toNatClampNeg).toInt ∧ n2.toInt + n3.toInt ≤ (c 61 w2.toNatClampNeg).toInt) ∧ ((-3) : Int32).toInt = -3) ∨ (0 ≤ w.toInt ∧ w.toInt < (i 5).toInt ∧ 0 ≤ w2.toInt ∧ w2.toInt < (i 5).toInt ∧ 0 ≤ s1.toInt ∧ s1.toInt ≤ 3 ∧ ¬ (c 63 w.toNatClampNeg).toInt = 0 ∧ ¬ (c 63 w2.toNatClampNeg).toInt = 0 ∧ (c 60 w.toNatClampNeg).toInt = s1.toInt ∧ (c 60 w2.toNatClampNeg).toInt = s1.toInt ∧ 0 ≤ n1.toInt ∧ 0 ≤ n2.toInt ∧ 0 ≤ n3.toInt ∧ n1.toInt + n3.toInt ≤ (c 61 w.toNatClampNeg).toInt ∧ n2.toInt + n3.toInt ≤ (c 61 w2.toNatClampNeg).toInt ∧ ((-3) : Int32).toInt = 1) from by have h50 : ((-3) : Int32).toInt = -3 := (by decide); omega)⟩
              · have f88 := mt (ti_eq (a := x87.toInt) (b := 0) rfl (by decide)).mpr c88
                refine lv_aload_n hx hb dX12_copy_86 rfl (lv_at hl 0 rfl) ?_
                refine mget_63 hx hb hts (fun _ h => List.mem_cons_of_mem _ (List.mem_append_right _ h)) hown hK hP (hts (.fieldLink RX12 136 "TalePlayModel" "hasLine" "[Z") (List.mem_cons_of_mem _ (List.mem_append_left _ (List.mem_append_left _ (List.mem_of_getElem? (i := 10) rfl))))) dX12_copy_87 ?_
                refine lv_iload hx hb dX12_copy_90 (lv_at hl 4 rfl) ?_
                refine mld_63 hx hb hK hP (vp_in_iff.mpr (by have h9 : w2.toInt = w2.toInt := rfl; omega)) dX12_copy_92 (fun x90 ex90 => ?_)
                have rx90 : 0 ≤ x90.toInt ∧ x90.toInt ≤ 1 := by rw [ex90]; exact hI.2 63 _
                have gx90 : (c 63 (w2 : Int32).toNatClampNeg).toInt = x90.toInt := by rw [ex90]
                refine lv_if_ne (tgt := 102) hx hb dX12_copy_93 (by decide) (fun c91 => ?_) (fun c91 => ?_)
                · have f91 := mt (ti_eq (a := x90.toInt) (b := 0) rfl (by decide)).mpr c91
                  refine lv_iload_n hx hb dX12_copy_102 rfl (lv_at hl 3 rfl) ?_
                  refine lv_if_lt (tgt := 152) hx hb dX12_copy_103 (by decide) (fun c92 => ?_) (fun c92 => ?_)
                  · have f92 := (ti_lt (a := n1.toInt) (b := 0) rfl (by decide)).mp c92
                    refine lv_aload_n hx hb dX12_copy_152 rfl (lv_at hl 0 rfl) ?_
                    refine lv_iconst (v := 2) hx hb dX12_copy_153 (by decide) ?_
                    refine al_calli (va_runV (As := [.int 2]) (rest := []) ⟨hx, hb, hml, hown, hts⟩ (s_X12_meets l D H.size o a t i q c d 2 hI (show 1 ≤ 2 ∧ 2 ≤ 6 from by have h90 : (2 : Int32).toInt = 2 := (by decide); omega)) (cwV 1 hts gm_X12_copy_X12_meets rfl rfl rfl (by decide +kernel) ⟨Nat.le_of_ble_eq_true rfl, Nat.le_of_ble_eq_true rfl⟩) (pB_V hK hP hD (ci := 12) (q0 := 0) rfl rfl) rfl rfl hl.1 rfl (lv_room (Nat.le_of_ble_eq_true rfl)) dX12_copy_154 ⟨Nat.le_of_ble_eq_true rfl, Nat.le_of_ble_eq_true rfl⟩) hS hA hP hD (fun r93 u93 H locs hw93 hP hD hS => ?_)
                    obtain ⟨i93, q93, c93, d93⟩ := u93
                    have hw93 : r93 = (-3) ∧ mInv i93 c93 ∧ (∀ k, k ∉ ([0] : List Nat) → i93 k = i k) ∧ (∀ k, k ∉ ([1] : List Nat) → c93 k = c k) := hw93
                    obtain ⟨hw93, hI, hei93, hec93⟩ := hw93
                    have hfi : ∀ k, k ∉ ([0] : List Nat) → i93 k = i k := fr_z hfi hei93 (by decide) (by decide)
                    have hfc : ∀ k, k ∉ ([1] : List Nat) → c93 k = c k := fr_z hfc hec93 (by decide) (by decide)
                    have hP : va_P D vwCl (mW o a t i93 q93 c93 d93) H := hP
                    have hD : va_D A (mW o a t i93 q93 c93 d93) := hD
                    have hw93 : r93 = (-3) := hw93
                    subst hw93
                    exact rw_iret (i93, q93, c93, d93) hx hb hr hlocks hS (hK.sub (tys' := []) [] rfl) hP hD dX12_copy_157 ⟨trivial, hI, fr_w hfi (by decide), fr_w hfc (by decide), (show (¬ (0 ≤ w.toInt ∧ w.toInt < (i 5).toInt ∧ 0 ≤ w2.toInt ∧ w2.toInt < (i 5).toInt ∧ 0 ≤ s1.toInt ∧ s1.toInt ≤ 3) ∧ ((-3) : Int32).toInt = -1) ∨ (0 ≤ w.toInt ∧ w.toInt < (i 5).toInt ∧ 0 ≤ w2.toInt ∧ w2.toInt < (i 5).toInt ∧ 0 ≤ s1.toInt ∧ s1.toInt ≤ 3 ∧ ¬ (¬ (c 63 w.toNatClampNeg).toInt = 0 ∧ ¬ (c 63 w2.toNatClampNeg).toInt = 0 ∧ (c 60 w.toNatClampNeg).toInt = s1.toInt ∧ (c 60 w2.toNatClampNeg).toInt = s1.toInt ∧ 0 ≤ n1.toInt ∧ 0 ≤ n2.toInt ∧ 0 ≤ n3.toInt ∧ n1.toInt + n3.toInt ≤ (c 61 w.toNatClampNeg).toInt ∧ n2.toInt + n3.toInt ≤ (c 61 w2.toNatClampNeg).toInt) ∧ ((-3) : Int32).toInt = -3) ∨ (0 ≤ w.toInt ∧ w.toInt < (i 5).toInt ∧ 0 ≤ w2.toInt ∧ w2.toInt < (i 5).toInt ∧ 0 ≤ s1.toInt ∧ s1.toInt ≤ 3 ∧ ¬ (c 63 w.toNatClampNeg).toInt = 0 ∧ ¬ (c 63 w2.toNatClampNeg).toInt = 0 ∧ (c 60 w.toNatClampNeg).toInt = s1.toInt ∧ (c 60 w2.toNatClampNeg).toInt = s1.toInt ∧ 0 ≤ n1.toInt ∧ 0 ≤ n2.toInt ∧ 0 ≤ n3.toInt ∧ n1.toInt + n3.toInt ≤ (c 61 w.toNatClampNeg).toInt ∧ n2.toInt + n3.toInt ≤ (c 61 w2.toNatClampNeg).toInt ∧ ((-3) : Int32).toInt = 1) from by have h50 : ((-3) : Int32).toInt = -3 := (by decide); omega)⟩
                  · have f92 := mt (ti_lt (a := n1.toInt) (b := 0) rfl (by decide)).mpr c92
                    refine lv_iload hx hb dX12_copy_106 (lv_at hl 5 rfl) ?_
                    refine lv_if_lt (tgt := 152) hx hb dX12_copy_108 (by decide) (fun c94 => ?_) (fun c94 => ?_)
                    · have f94 := (ti_lt (a := n2.toInt) (b := 0) rfl (by decide)).mp c94
                      refine lv_aload_n hx hb dX12_copy_152 rfl (lv_at hl 0 rfl) ?_
                      refine lv_iconst (v := 2) hx hb dX12_copy_153 (by decide) ?_
                      refine al_calli (va_runV (As := [.int 2]) (rest := []) ⟨hx, hb, hml, hown, hts⟩ (s_X12_meets l D H.size o a t i q c d 2 hI (show 1 ≤ 2 ∧ 2 ≤ 6 from by have h90 : (2 : Int32).toInt = 2 := (by decide); omega)) (cwV 1 hts gm_X12_copy_X12_meets rfl rfl rfl (by decide +kernel) ⟨Nat.le_of_ble_eq_true rfl, Nat.le_of_ble_eq_true rfl⟩) (pB_V hK hP hD (ci := 12) (q0 := 0) rfl rfl) rfl rfl hl.1 rfl (lv_room (Nat.le_of_ble_eq_true rfl)) dX12_copy_154 ⟨Nat.le_of_ble_eq_true rfl, Nat.le_of_ble_eq_true rfl⟩) hS hA hP hD (fun r95 u95 H locs hw95 hP hD hS => ?_)
                      obtain ⟨i95, q95, c95, d95⟩ := u95
                      have hw95 : r95 = (-3) ∧ mInv i95 c95 ∧ (∀ k, k ∉ ([0] : List Nat) → i95 k = i k) ∧ (∀ k, k ∉ ([1] : List Nat) → c95 k = c k) := hw95
                      obtain ⟨hw95, hI, hei95, hec95⟩ := hw95
                      have hfi : ∀ k, k ∉ ([0] : List Nat) → i95 k = i k := fr_z hfi hei95 (by decide) (by decide)
                      have hfc : ∀ k, k ∉ ([1] : List Nat) → c95 k = c k := fr_z hfc hec95 (by decide) (by decide)
                      have hP : va_P D vwCl (mW o a t i95 q95 c95 d95) H := hP
                      have hD : va_D A (mW o a t i95 q95 c95 d95) := hD
                      have hw95 : r95 = (-3) := hw95
                      subst hw95
                      exact rw_iret (i95, q95, c95, d95) hx hb hr hlocks hS (hK.sub (tys' := []) [] rfl) hP hD dX12_copy_157 ⟨trivial, hI, fr_w hfi (by decide), fr_w hfc (by decide), (show (¬ (0 ≤ w.toInt ∧ w.toInt < (i 5).toInt ∧ 0 ≤ w2.toInt ∧ w2.toInt < (i 5).toInt ∧ 0 ≤ s1.toInt ∧ s1.toInt ≤ 3) ∧ ((-3) : Int32).toInt = -1) ∨ (0 ≤ w.toInt ∧ w.toInt < (i 5).toInt ∧ 0 ≤ w2.toInt ∧ w2.toInt < (i 5).toInt ∧ 0 ≤ s1.toInt ∧ s1.toInt ≤ 3 ∧ ¬ (¬ (c 63 w.toNatClampNeg).toInt = 0 ∧ ¬ (c 63 w2.toNatClampNeg).toInt = 0 ∧ (c 60 w.toNatClampNeg).toInt = s1.toInt ∧ (c 60 w2.toNatClampNeg).toInt = s1.toInt ∧ 0 ≤ n1.toInt ∧ 0 ≤ n2.toInt ∧ 0 ≤ n3.toInt ∧ n1.toInt + n3.toInt ≤ (c 61 w.toNatClampNeg).toInt ∧ n2.toInt + n3.toInt ≤ (c 61 w2.toNatClampNeg).toInt) ∧ ((-3) : Int32).toInt = -3) ∨ (0 ≤ w.toInt ∧ w.toInt < (i 5).toInt ∧ 0 ≤ w2.toInt ∧ w2.toInt < (i 5).toInt ∧ 0 ≤ s1.toInt ∧ s1.toInt ≤ 3 ∧ ¬ (c 63 w.toNatClampNeg).toInt = 0 ∧ ¬ (c 63 w2.toNatClampNeg).toInt = 0 ∧ (c 60 w.toNatClampNeg).toInt = s1.toInt ∧ (c 60 w2.toNatClampNeg).toInt = s1.toInt ∧ 0 ≤ n1.toInt ∧ 0 ≤ n2.toInt ∧ 0 ≤ n3.toInt ∧ n1.toInt + n3.toInt ≤ (c 61 w.toNatClampNeg).toInt ∧ n2.toInt + n3.toInt ≤ (c 61 w2.toNatClampNeg).toInt ∧ ((-3) : Int32).toInt = 1) from by have h50 : ((-3) : Int32).toInt = -3 := (by decide); omega)⟩
                    · have f94 := mt (ti_lt (a := n2.toInt) (b := 0) rfl (by decide)).mpr c94
                      refine lv_iload hx hb dX12_copy_111 (lv_at hl 6 rfl) ?_
                      refine lv_if_lt (tgt := 152) hx hb dX12_copy_113 (by decide) (fun c96 => ?_) (fun c96 => ?_)
                      · have f96 := (ti_lt (a := n3.toInt) (b := 0) rfl (by decide)).mp c96
                        refine lv_aload_n hx hb dX12_copy_152 rfl (lv_at hl 0 rfl) ?_
                        refine lv_iconst (v := 2) hx hb dX12_copy_153 (by decide) ?_
                        refine al_calli (va_runV (As := [.int 2]) (rest := []) ⟨hx, hb, hml, hown, hts⟩ (s_X12_meets l D H.size o a t i q c d 2 hI (show 1 ≤ 2 ∧ 2 ≤ 6 from by have h90 : (2 : Int32).toInt = 2 := (by decide); omega)) (cwV 1 hts gm_X12_copy_X12_meets rfl rfl rfl (by decide +kernel) ⟨Nat.le_of_ble_eq_true rfl, Nat.le_of_ble_eq_true rfl⟩) (pB_V hK hP hD (ci := 12) (q0 := 0) rfl rfl) rfl rfl hl.1 rfl (lv_room (Nat.le_of_ble_eq_true rfl)) dX12_copy_154 ⟨Nat.le_of_ble_eq_true rfl, Nat.le_of_ble_eq_true rfl⟩) hS hA hP hD (fun r97 u97 H locs hw97 hP hD hS => ?_)
                        obtain ⟨i97, q97, c97, d97⟩ := u97
                        have hw97 : r97 = (-3) ∧ mInv i97 c97 ∧ (∀ k, k ∉ ([0] : List Nat) → i97 k = i k) ∧ (∀ k, k ∉ ([1] : List Nat) → c97 k = c k) := hw97
                        obtain ⟨hw97, hI, hei97, hec97⟩ := hw97
                        have hfi : ∀ k, k ∉ ([0] : List Nat) → i97 k = i k := fr_z hfi hei97 (by decide) (by decide)
                        have hfc : ∀ k, k ∉ ([1] : List Nat) → c97 k = c k := fr_z hfc hec97 (by decide) (by decide)
                        have hP : va_P D vwCl (mW o a t i97 q97 c97 d97) H := hP
                        have hD : va_D A (mW o a t i97 q97 c97 d97) := hD
                        have hw97 : r97 = (-3) := hw97
                        subst hw97
                        exact rw_iret (i97, q97, c97, d97) hx hb hr hlocks hS (hK.sub (tys' := []) [] rfl) hP hD dX12_copy_157 ⟨trivial, hI, fr_w hfi (by decide), fr_w hfc (by decide), (show (¬ (0 ≤ w.toInt ∧ w.toInt < (i 5).toInt ∧ 0 ≤ w2.toInt ∧ w2.toInt < (i 5).toInt ∧ 0 ≤ s1.toInt ∧ s1.toInt ≤ 3) ∧ ((-3) : Int32).toInt = -1) ∨ (0 ≤ w.toInt ∧ w.toInt < (i 5).toInt ∧ 0 ≤ w2.toInt ∧ w2.toInt < (i 5).toInt ∧ 0 ≤ s1.toInt ∧ s1.toInt ≤ 3 ∧ ¬ (¬ (c 63 w.toNatClampNeg).toInt = 0 ∧ ¬ (c 63 w2.toNatClampNeg).toInt = 0 ∧ (c 60 w.toNatClampNeg).toInt = s1.toInt ∧ (c 60 w2.toNatClampNeg).toInt = s1.toInt ∧ 0 ≤ n1.toInt ∧ 0 ≤ n2.toInt ∧ 0 ≤ n3.toInt ∧ n1.toInt + n3.toInt ≤ (c 61 w.toNatClampNeg).toInt ∧ n2.toInt + n3.toInt ≤ (c 61 w2.toNatClampNeg).toInt) ∧ ((-3) : Int32).toInt = -3) ∨ (0 ≤ w.toInt ∧ w.toInt < (i 5).toInt ∧ 0 ≤ w2.toInt ∧ w2.toInt < (i 5).toInt ∧ 0 ≤ s1.toInt ∧ s1.toInt ≤ 3 ∧ ¬ (c 63 w.toNatClampNeg).toInt = 0 ∧ ¬ (c 63 w2.toNatClampNeg).toInt = 0 ∧ (c 60 w.toNatClampNeg).toInt = s1.toInt ∧ (c 60 w2.toNatClampNeg).toInt = s1.toInt ∧ 0 ≤ n1.toInt ∧ 0 ≤ n2.toInt ∧ 0 ≤ n3.toInt ∧ n1.toInt + n3.toInt ≤ (c 61 w.toNatClampNeg).toInt ∧ n2.toInt + n3.toInt ≤ (c 61 w2.toNatClampNeg).toInt ∧ ((-3) : Int32).toInt = 1) from by have h50 : ((-3) : Int32).toInt = -3 := (by decide); omega)⟩
                      · have f96 := mt (ti_lt (a := n3.toInt) (b := 0) rfl (by decide)).mpr c96
                        refine lv_iload_n hx hb dX12_copy_116 rfl (lv_at hl 3 rfl) ?_
                        refine lv_i2l (v := n1.toInt64) hx hb dX12_copy_117 rfl ?_
                        refine lv_iload hx hb dX12_copy_118 (lv_at hl 6 rfl) ?_
                        refine lv_i2l (v := n3.toInt64) hx hb dX12_copy_120 rfl ?_
                        refine lv_ladd hx hb dX12_copy_121 ?_
                        refine lv_topl (fun x98 ex98 => ?_)
                        have ib98_n1 := i32b n1
                        have ib98_n3 := i32b n3
                        have tx98 := ti_addl (a := n1.toInt) (b := n3.toInt) ex98 ((Int32.toInt_toInt64 n1).trans rfl) ((Int32.toInt_toInt64 n3).trans rfl) (by omega) (by omega)
                        refine lv_aload_n hx hb dX12_copy_122 rfl (lv_at hl 0 rfl) ?_
                        refine mget_61 hx hb hts (fun _ h => List.mem_cons_of_mem _ (List.mem_append_right _ h)) hown hK hP (hts (.fieldLink RX12 129 "TalePlayModel" "lineMany" "[I") (List.mem_cons_of_mem _ (List.mem_append_left _ (List.mem_append_right _ (List.mem_of_getElem? (i := 1) rfl))))) dX12_copy_123 ?_
                        refine lv_iload_n hx hb dX12_copy_126 rfl (lv_at hl 1 rfl) ?_
                        refine mld_61 hx hb hK hP (vp_in_iff.mpr (by have h9 : w.toInt = w.toInt := rfl; omega)) dX12_copy_127 (fun x99 ex99 => ?_)
                        have rx99 : 0 ≤ x99.toInt ∧ x99.toInt ≤ 12 := by rw [ex99]; exact hI.2 61 _
                        have gx99 : (c 61 (w : Int32).toNatClampNeg).toInt = x99.toInt := by rw [ex99]
                        refine lv_i2l (v := x99.toInt64) hx hb dX12_copy_128 rfl ?_
                        refine W.lcmp hx hb dX12_copy_129 ?_
                        refine lv_if_gt (tgt := 152) hx hb dX12_copy_130 (by decide) (fun c100 => ?_) (fun c100 => ?_)
                        · have f100 := (lc_gt (a := (n1.toInt + n3.toInt)) (b := x99.toInt) tx98 ((Int32.toInt_toInt64 x99).trans rfl)).mp c100
                          refine lv_aload_n hx hb dX12_copy_152 rfl (lv_at hl 0 rfl) ?_
                          refine lv_iconst (v := 2) hx hb dX12_copy_153 (by decide) ?_
                          refine al_calli (va_runV (As := [.int 2]) (rest := []) ⟨hx, hb, hml, hown, hts⟩ (s_X12_meets l D H.size o a t i q c d 2 hI (show 1 ≤ 2 ∧ 2 ≤ 6 from by have h90 : (2 : Int32).toInt = 2 := (by decide); omega)) (cwV 1 hts gm_X12_copy_X12_meets rfl rfl rfl (by decide +kernel) ⟨Nat.le_of_ble_eq_true rfl, Nat.le_of_ble_eq_true rfl⟩) (pB_V hK hP hD (ci := 12) (q0 := 0) rfl rfl) rfl rfl hl.1 rfl (lv_room (Nat.le_of_ble_eq_true rfl)) dX12_copy_154 ⟨Nat.le_of_ble_eq_true rfl, Nat.le_of_ble_eq_true rfl⟩) hS hA hP hD (fun r101 u101 H locs hw101 hP hD hS => ?_)
                          obtain ⟨i101, q101, c101, d101⟩ := u101
                          have hw101 : r101 = (-3) ∧ mInv i101 c101 ∧ (∀ k, k ∉ ([0] : List Nat) → i101 k = i k) ∧ (∀ k, k ∉ ([1] : List Nat) → c101 k = c k) := hw101
                          obtain ⟨hw101, hI, hei101, hec101⟩ := hw101
                          have hfi : ∀ k, k ∉ ([0] : List Nat) → i101 k = i k := fr_z hfi hei101 (by decide) (by decide)
                          have hfc : ∀ k, k ∉ ([1] : List Nat) → c101 k = c k := fr_z hfc hec101 (by decide) (by decide)
                          have hP : va_P D vwCl (mW o a t i101 q101 c101 d101) H := hP
                          have hD : va_D A (mW o a t i101 q101 c101 d101) := hD
                          have hw101 : r101 = (-3) := hw101
                          subst hw101
                          exact rw_iret (i101, q101, c101, d101) hx hb hr hlocks hS (hK.sub (tys' := []) [] rfl) hP hD dX12_copy_157 ⟨trivial, hI, fr_w hfi (by decide), fr_w hfc (by decide), (show (¬ (0 ≤ w.toInt ∧ w.toInt < (i 5).toInt ∧ 0 ≤ w2.toInt ∧ w2.toInt < (i 5).toInt ∧ 0 ≤ s1.toInt ∧ s1.toInt ≤ 3) ∧ ((-3) : Int32).toInt = -1) ∨ (0 ≤ w.toInt ∧ w.toInt < (i 5).toInt ∧ 0 ≤ w2.toInt ∧ w2.toInt < (i 5).toInt ∧ 0 ≤ s1.toInt ∧ s1.toInt ≤ 3 ∧ ¬ (¬ (c 63 w.toNatClampNeg).toInt = 0 ∧ ¬ (c 63 w2.toNatClampNeg).toInt = 0 ∧ (c 60 w.toNatClampNeg).toInt = s1.toInt ∧ (c 60 w2.toNatClampNeg).toInt = s1.toInt ∧ 0 ≤ n1.toInt ∧ 0 ≤ n2.toInt ∧ 0 ≤ n3.toInt ∧ n1.toInt + n3.toInt ≤ (c 61 w.toNatClampNeg).toInt ∧ n2.toInt + n3.toInt ≤ (c 61 w2.toNatClampNeg).toInt) ∧ ((-3) : Int32).toInt = -3) ∨ (0 ≤ w.toInt ∧ w.toInt < (i 5).toInt ∧ 0 ≤ w2.toInt ∧ w2.toInt < (i 5).toInt ∧ 0 ≤ s1.toInt ∧ s1.toInt ≤ 3 ∧ ¬ (c 63 w.toNatClampNeg).toInt = 0 ∧ ¬ (c 63 w2.toNatClampNeg).toInt = 0 ∧ (c 60 w.toNatClampNeg).toInt = s1.toInt ∧ (c 60 w2.toNatClampNeg).toInt = s1.toInt ∧ 0 ≤ n1.toInt ∧ 0 ≤ n2.toInt ∧ 0 ≤ n3.toInt ∧ n1.toInt + n3.toInt ≤ (c 61 w.toNatClampNeg).toInt ∧ n2.toInt + n3.toInt ≤ (c 61 w2.toNatClampNeg).toInt ∧ ((-3) : Int32).toInt = 1) from by have h50 : ((-3) : Int32).toInt = -3 := (by decide); omega)⟩
                        · have f100 := mt (lc_gt (a := (n1.toInt + n3.toInt)) (b := x99.toInt) tx98 ((Int32.toInt_toInt64 x99).trans rfl)).mpr c100
                          refine lv_iload hx hb dX12_copy_133 (lv_at hl 5 rfl) ?_
                          refine lv_i2l (v := n2.toInt64) hx hb dX12_copy_135 rfl ?_
                          refine lv_iload hx hb dX12_copy_136 (lv_at hl 6 rfl) ?_
                          refine lv_i2l (v := n3.toInt64) hx hb dX12_copy_138 rfl ?_
                          refine lv_ladd hx hb dX12_copy_139 ?_
                          refine lv_topl (fun x102 ex102 => ?_)
                          have ib102_n2 := i32b n2
                          have ib102_n3 := i32b n3
                          have tx102 := ti_addl (a := n2.toInt) (b := n3.toInt) ex102 ((Int32.toInt_toInt64 n2).trans rfl) ((Int32.toInt_toInt64 n3).trans rfl) (by omega) (by omega)
                          refine lv_aload_n hx hb dX12_copy_140 rfl (lv_at hl 0 rfl) ?_
                          refine mget_61 hx hb hts (fun _ h => List.mem_cons_of_mem _ (List.mem_append_right _ h)) hown hK hP (hts (.fieldLink RX12 129 "TalePlayModel" "lineMany" "[I") (List.mem_cons_of_mem _ (List.mem_append_left _ (List.mem_append_right _ (List.mem_of_getElem? (i := 1) rfl))))) dX12_copy_141 ?_
                          refine lv_iload hx hb dX12_copy_144 (lv_at hl 4 rfl) ?_
                          refine mld_61 hx hb hK hP (vp_in_iff.mpr (by have h9 : w2.toInt = w2.toInt := rfl; omega)) dX12_copy_146 (fun x103 ex103 => ?_)
                          have rx103 : 0 ≤ x103.toInt ∧ x103.toInt ≤ 12 := by rw [ex103]; exact hI.2 61 _
                          have gx103 : (c 61 (w2 : Int32).toNatClampNeg).toInt = x103.toInt := by rw [ex103]
                          refine lv_i2l (v := x103.toInt64) hx hb dX12_copy_147 rfl ?_
                          refine W.lcmp hx hb dX12_copy_148 ?_
                          refine lv_if_le (tgt := 158) hx hb dX12_copy_149 (by decide) (fun c104 => ?_) (fun c104 => ?_)
                          · have f104 := (lc_le (a := (n2.toInt + n3.toInt)) (b := x103.toInt) tx102 ((Int32.toInt_toInt64 x103).trans rfl)).mp c104
                            refine lv_iconst (v := 0) hx hb dX12_copy_158 (by decide) ?_
                            refine lv_istore (lv' := [(7, .int 0), (0, .ref o), (1, .int w), (2, .int s1), (3, .int n1), (4, .int w2), (5, .int n2), (6, .int n3)]) hx hb dX12_copy_159 hl (by decide) rfl (fun ls hl => ?_)
                            have lp105 : ∀ (fu : Nat) (i105 : Nat → Int32) (q105 : Int64) (c105 : Nat → Nat → Int32) (d105 : Nat → Nat → Int64) (y105_7 : Int32), mInv i105 c105 → (∀ k, k ∉ ([] : List Nat) → i105 k = i k) → (∀ k, k ∉ ([] : List Nat) → c105 k = c k) → (0 ≤ y105_7.toInt ∧ y105_7.toInt ≤ 12) → (12 - y105_7.toInt).toNat < fu → ∀ (H : Heap) (locs : List Loc) (ls : Array Slot), va_P D vwCl (mW o a t i105 q105 c105 d105) H → va_D A (mW o a t i105 q105 c105 d105) → va_S A s.heap H locs → lv_has ls 8 [(7, .int y105_7), (0, .ref o), (1, .int w), (2, .int s1), (3, .int n1), (4, .int w2), (5, .int n2), (6, .int n3)] → W p l e (headSpec wm_X12_copy ({ frames := 2, cells := 0, slots := 0, locals := 46 })).room s m ([.ref o, .int w, .int s1, .int n1, .int w2, .int n2, .int n3] : List Value).toArray below meth cd H locs 0 0 (MQ below (va_Qi (fun (r : Int32) (u : MS) => True ∧ mInv u.1 u.2.2.1 ∧ (∀ k, k ∉ ([0] : List Nat) → u.1 k = i k) ∧ (∀ k, k ∉ ([1] : List Nat) → u.2.2.1 k = c k) ∧ ((¬ (0 ≤ w.toInt ∧ w.toInt < (i 5).toInt ∧ 0 ≤ w2.toInt ∧ w2.toInt < (i 5).toInt ∧ 0 ≤ s1.toInt ∧ s1.toInt ≤ 3) ∧ r.toInt = -1) ∨ (0 ≤ w.toInt ∧ w.toInt < (i 5).toInt ∧ 0 ≤ w2.toInt ∧ w2.toInt < (i 5).toInt ∧ 0 ≤ s1.toInt ∧ s1.toInt ≤ 3 ∧ ¬ (¬ (c 63 w.toNatClampNeg).toInt = 0 ∧ ¬ (c 63 w2.toNatClampNeg).toInt = 0 ∧ (c 60 w.toNatClampNeg).toInt = s1.toInt ∧ (c 60 w2.toNatClampNeg).toInt = s1.toInt ∧ 0 ≤ n1.toInt ∧ 0 ≤ n2.toInt ∧ 0 ≤ n3.toInt ∧ n1.toInt + n3.toInt ≤ (c 61 w.toNatClampNeg).toInt ∧ n2.toInt + n3.toInt ≤ (c 61 w2.toNatClampNeg).toInt) ∧ r.toInt = -3) ∨ (0 ≤ w.toInt ∧ w.toInt < (i 5).toInt ∧ 0 ≤ w2.toInt ∧ w2.toInt < (i 5).toInt ∧ 0 ≤ s1.toInt ∧ s1.toInt ≤ 3 ∧ ¬ (c 63 w.toNatClampNeg).toInt = 0 ∧ ¬ (c 63 w2.toNatClampNeg).toInt = 0 ∧ (c 60 w.toNatClampNeg).toInt = s1.toInt ∧ (c 60 w2.toNatClampNeg).toInt = s1.toInt ∧ 0 ≤ n1.toInt ∧ 0 ≤ n2.toInt ∧ 0 ≤ n3.toInt ∧ n1.toInt + n3.toInt ≤ (c 61 w.toNatClampNeg).toInt ∧ n2.toInt + n3.toInt ≤ (c 61 w2.toNatClampNeg).toInt ∧ r.toInt = 1))) (oC D A (fun u : MS => mW o a t u.1 u.2.1 u.2.2.1 u.2.2.2) (fun _ => [])) A) ([.ref o, .int w, .int s1, .int n1, .int w2, .int n2, .int n3] : List Value).toArray s 0 0 A) (F0 m 161 ls []) := by
                              intro fu
                              induction fu with
                              | zero => intro i105 q105 c105 d105 y105_7 hI hfi hfc hy105_7 hm; exact absurd hm (Nat.not_lt_zero _)
                              | succ fu ih =>
                                intro i105 q105 c105 d105 y105_7 hI hfi hfc hy105_7 hm H locs ls hP hD hS hl
                                have ih105 := ih
                                refine lv_iload hx hb dX12_copy_161 (lv_at hl 0 rfl) ?_
                                refine lv_iload hx hb dX12_copy_163 (lv_at hl 7 rfl) ?_
                                refine lv_icmp_ge (tgt := 195) hx hb dX12_copy_165 (by decide) (fun c106 => ?_) (fun c106 => ?_)
                                · have f106 := (ti_le (a := n3.toInt) (b := y105_7.toInt) rfl rfl).mp c106
                                  refine lv_iconst (v := 0) hx hb dX12_copy_195 (by decide) ?_
                                  refine lv_istore (lv' := [(7, .int 0), (0, .ref o), (1, .int w), (2, .int s1), (3, .int n1), (4, .int w2), (5, .int n2), (6, .int n3)]) hx hb dX12_copy_196 hl (by decide) rfl (fun ls hl => ?_)
                                  have lp107 : ∀ (fu : Nat) (i107 : Nat → Int32) (q107 : Int64) (c107 : Nat → Nat → Int32) (d107 : Nat → Nat → Int64) (y107_7 : Int32), mInv i107 c107 → (∀ k, k ∉ ([] : List Nat) → i107 k = i k) → (∀ k, k ∉ ([] : List Nat) → c107 k = c k) → (0 ≤ y107_7.toInt ∧ y107_7.toInt ≤ 12) → (12 - y107_7.toInt).toNat < fu → ∀ (H : Heap) (locs : List Loc) (ls : Array Slot), va_P D vwCl (mW o a t i107 q107 c107 d107) H → va_D A (mW o a t i107 q107 c107 d107) → va_S A s.heap H locs → lv_has ls 8 [(7, .int y107_7), (0, .ref o), (1, .int w), (2, .int s1), (3, .int n1), (4, .int w2), (5, .int n2), (6, .int n3)] → W p l e (headSpec wm_X12_copy ({ frames := 2, cells := 0, slots := 0, locals := 46 })).room s m ([.ref o, .int w, .int s1, .int n1, .int w2, .int n2, .int n3] : List Value).toArray below meth cd H locs 0 0 (MQ below (va_Qi (fun (r : Int32) (u : MS) => True ∧ mInv u.1 u.2.2.1 ∧ (∀ k, k ∉ ([0] : List Nat) → u.1 k = i k) ∧ (∀ k, k ∉ ([1] : List Nat) → u.2.2.1 k = c k) ∧ ((¬ (0 ≤ w.toInt ∧ w.toInt < (i 5).toInt ∧ 0 ≤ w2.toInt ∧ w2.toInt < (i 5).toInt ∧ 0 ≤ s1.toInt ∧ s1.toInt ≤ 3) ∧ r.toInt = -1) ∨ (0 ≤ w.toInt ∧ w.toInt < (i 5).toInt ∧ 0 ≤ w2.toInt ∧ w2.toInt < (i 5).toInt ∧ 0 ≤ s1.toInt ∧ s1.toInt ≤ 3 ∧ ¬ (¬ (c 63 w.toNatClampNeg).toInt = 0 ∧ ¬ (c 63 w2.toNatClampNeg).toInt = 0 ∧ (c 60 w.toNatClampNeg).toInt = s1.toInt ∧ (c 60 w2.toNatClampNeg).toInt = s1.toInt ∧ 0 ≤ n1.toInt ∧ 0 ≤ n2.toInt ∧ 0 ≤ n3.toInt ∧ n1.toInt + n3.toInt ≤ (c 61 w.toNatClampNeg).toInt ∧ n2.toInt + n3.toInt ≤ (c 61 w2.toNatClampNeg).toInt) ∧ r.toInt = -3) ∨ (0 ≤ w.toInt ∧ w.toInt < (i 5).toInt ∧ 0 ≤ w2.toInt ∧ w2.toInt < (i 5).toInt ∧ 0 ≤ s1.toInt ∧ s1.toInt ≤ 3 ∧ ¬ (c 63 w.toNatClampNeg).toInt = 0 ∧ ¬ (c 63 w2.toNatClampNeg).toInt = 0 ∧ (c 60 w.toNatClampNeg).toInt = s1.toInt ∧ (c 60 w2.toNatClampNeg).toInt = s1.toInt ∧ 0 ≤ n1.toInt ∧ 0 ≤ n2.toInt ∧ 0 ≤ n3.toInt ∧ n1.toInt + n3.toInt ≤ (c 61 w.toNatClampNeg).toInt ∧ n2.toInt + n3.toInt ≤ (c 61 w2.toNatClampNeg).toInt ∧ r.toInt = 1))) (oC D A (fun u : MS => mW o a t u.1 u.2.1 u.2.2.1 u.2.2.2) (fun _ => [])) A) ([.ref o, .int w, .int s1, .int n1, .int w2, .int n2, .int n3] : List Value).toArray s 0 0 A) (F0 m 198 ls []) := by
                                    intro fu
                                    induction fu with
                                    | zero => intro i107 q107 c107 d107 y107_7 hI hfi hfc hy107_7 hm; exact absurd hm (Nat.not_lt_zero _)
                                    | succ fu ih =>
                                      intro i107 q107 c107 d107 y107_7 hI hfi hfc hy107_7 hm H locs ls hP hD hS hl
                                      have ih107 := ih
                                      refine lv_iload hx hb dX12_copy_198 (lv_at hl 0 rfl) ?_
                                      refine lv_iload hx hb dX12_copy_200 (lv_at hl 7 rfl) ?_
                                      refine lv_icmp_ge (tgt := 234) hx hb dX12_copy_202 (by decide) (fun c108 => ?_) (fun c108 => ?_)
                                      · have f108 := (ti_le (a := n3.toInt) (b := y107_7.toInt) rfl rfl).mp c108
                                        refine lv_iconst (v := 1) hx hb dX12_copy_234 (by decide) ?_
                                        exact rw_iret (i107, q107, c107, d107) hx hb hr hlocks hS (hK.sub (tys' := []) [] rfl) hP hD dX12_copy_235 ⟨trivial, hI, fr_w hfi (by decide), fr_w hfc (by decide), (show (¬ (0 ≤ w.toInt ∧ w.toInt < (i 5).toInt ∧ 0 ≤ w2.toInt ∧ w2.toInt < (i 5).toInt ∧ 0 ≤ s1.toInt ∧ s1.toInt ≤ 3) ∧ (1 : Int32).toInt = -1) ∨ (0 ≤ w.toInt ∧ w.toInt < (i 5).toInt ∧ 0 ≤ w2.toInt ∧ w2.toInt < (i 5).toInt ∧ 0 ≤ s1.toInt ∧ s1.toInt ≤ 3 ∧ ¬ (¬ (c 63 w.toNatClampNeg).toInt = 0 ∧ ¬ (c 63 w2.toNatClampNeg).toInt = 0 ∧ (c 60 w.toNatClampNeg).toInt = s1.toInt ∧ (c 60 w2.toNatClampNeg).toInt = s1.toInt ∧ 0 ≤ n1.toInt ∧ 0 ≤ n2.toInt ∧ 0 ≤ n3.toInt ∧ n1.toInt + n3.toInt ≤ (c 61 w.toNatClampNeg).toInt ∧ n2.toInt + n3.toInt ≤ (c 61 w2.toNatClampNeg).toInt) ∧ (1 : Int32).toInt = -3) ∨ (0 ≤ w.toInt ∧ w.toInt < (i 5).toInt ∧ 0 ≤ w2.toInt ∧ w2.toInt < (i 5).toInt ∧ 0 ≤ s1.toInt ∧ s1.toInt ≤ 3 ∧ ¬ (c 63 w.toNatClampNeg).toInt = 0 ∧ ¬ (c 63 w2.toNatClampNeg).toInt = 0 ∧ (c 60 w.toNatClampNeg).toInt = s1.toInt ∧ (c 60 w2.toNatClampNeg).toInt = s1.toInt ∧ 0 ≤ n1.toInt ∧ 0 ≤ n2.toInt ∧ 0 ≤ n3.toInt ∧ n1.toInt + n3.toInt ≤ (c 61 w.toNatClampNeg).toInt ∧ n2.toInt + n3.toInt ≤ (c 61 w2.toNatClampNeg).toInt ∧ (1 : Int32).toInt = 1) from by have h50 : (1 : Int32).toInt = 1 := (by decide); omega)⟩
                                      · have f108 := mt (ti_le (a := n3.toInt) (b := y107_7.toInt) rfl rfl).mpr c108
                                        refine lv_aload_n hx hb dX12_copy_205 rfl (lv_at hl 1 rfl) ?_
                                        refine mget_62 hx hb hts (fun _ h => List.mem_cons_of_mem _ (List.mem_append_right _ h)) hown hK hP (hts (.fieldLink RX12 132 "TalePlayModel" "items" "[J") (List.mem_cons_of_mem _ (List.mem_append_left _ (List.mem_append_right _ (List.mem_of_getElem? (i := 2) rfl))))) dX12_copy_206 ?_
                                        refine lv_bipush (v := 12) hx hb dX12_copy_209 (by decide) ?_
                                        refine lv_iload hx hb dX12_copy_211 (lv_at hl 5 rfl) ?_
                                        refine lv_imul hx hb dX12_copy_213 ?_
                                        refine lv_topi (fun x109 ex109 => ?_)
                                        have tx109 := ti_mul (a := 12) (b := w2.toInt) ex109 (by decide) rfl (by omega) (by omega)
                                        refine lv_iload hx hb dX12_copy_214 (lv_at hl 6 rfl) ?_
                                        refine lv_iadd hx hb dX12_copy_216 ?_
                                        refine lv_topi (fun x110 ex110 => ?_)
                                        have tx110 := ti_add (a := (12 * w2.toInt)) (b := n2.toInt) ex110 tx109 rfl (by omega) (by omega)
                                        refine lv_iload hx hb dX12_copy_217 (lv_at hl 0 rfl) ?_
                                        refine lv_iadd hx hb dX12_copy_219 ?_
                                        refine lv_topi (fun x111 ex111 => ?_)
                                        have tx111 := ti_add (a := ((12 * w2.toInt) + n2.toInt)) (b := y107_7.toInt) ex111 tx110 rfl (by omega) (by omega)
                                        refine lv_aload_n hx hb dX12_copy_220 rfl (lv_at hl 1 rfl) ?_
                                        refine mget_68 hx hb hts (fun _ h => List.mem_cons_of_mem _ (List.mem_append_right _ h)) hown hK hP (hts (.fieldLink RX12 148 "TalePlayModel" "held" "[J") (List.mem_cons_of_mem _ (List.mem_append_left _ (List.mem_append_right _ (List.mem_of_getElem? (i := 3) rfl))))) dX12_copy_221 ?_
                                        refine lv_iload hx hb dX12_copy_224 (lv_at hl 0 rfl) ?_
                                        refine mld_68 hx hb hK hP (vp_in_iff.mpr (by have h9 : y107_7.toInt = y107_7.toInt := rfl; omega)) dX12_copy_226 (fun x112 ex112 => ?_)
                                        refine mst_62 hx hb hK hP hD hS (vp_in_iff.mpr (by have h9 : x111.toInt = (((12 * w2.toInt) + n2.toInt) + y107_7.toInt) := tx111; omega)) dX12_copy_227 (fun H locs hP hD hS => ?_)
                                        obtain ⟨x113, ex113⟩ : ∃ y : Int32, y = y107_7 + 1 := ⟨_, rfl⟩
                                        have tx113 := ti_add (a := y107_7.toInt) (b := 1) ex113 rfl (by decide) (by omega) (by omega)
                                        refine lv_iinc (v := x113) (lv' := [(7, .int x113), (0, .ref o), (1, .int w), (2, .int s1), (3, .int n1), (4, .int w2), (5, .int n2), (6, .int n3)]) hx hb dX12_copy_228 hl (k := 0) rfl (by rw [ex113]; rfl) (by decide) rfl (fun ls hl => ?_)
                                        refine lv_goto (tgt := 198) hx hb dX12_copy_231 (by decide) ?_
                                        exact ih107 i107 q107 c107 (updD d107 62 (x111 : Int32).toNatClampNeg x112) x113 hI (fr_w hfi (by decide)) (fr_w hfc (by decide)) (show 0 ≤ x113.toInt ∧ x113.toInt ≤ 12 from by have h50 : x113.toInt = (y107_7.toInt + 1) := tx113; omega) (by have h50 : x113.toInt = (y107_7.toInt + 1) := tx113; omega) _ _ _ hP hD hS (lv_sub hl [0, 1, 2, 3, 4, 5, 6, 7] rfl)
                                  exact lp107 _ i105 q105 c105 d105 (0 : Int32) hI (fr_w hfi (by decide)) (fr_w hfc (by decide)) (show 0 ≤ (0 : Int32).toInt ∧ (0 : Int32).toInt ≤ 12 from by have h50 : (0 : Int32).toInt = 0 := (by decide); omega) (Nat.lt_succ_self _) _ _ _ hP hD hS (lv_sub hl [0, 1, 2, 3, 4, 5, 6, 7] rfl)
                                · have f106 := mt (ti_le (a := n3.toInt) (b := y105_7.toInt) rfl rfl).mpr c106
                                  refine lv_aload_n hx hb dX12_copy_168 rfl (lv_at hl 1 rfl) ?_
                                  refine mget_68 hx hb hts (fun _ h => List.mem_cons_of_mem _ (List.mem_append_right _ h)) hown hK hP (hts (.fieldLink RX12 148 "TalePlayModel" "held" "[J") (List.mem_cons_of_mem _ (List.mem_append_left _ (List.mem_append_right _ (List.mem_of_getElem? (i := 3) rfl))))) dX12_copy_169 ?_
                                  refine lv_iload hx hb dX12_copy_172 (lv_at hl 0 rfl) ?_
                                  refine lv_aload_n hx hb dX12_copy_174 rfl (lv_at hl 1 rfl) ?_
                                  refine mget_62 hx hb hts (fun _ h => List.mem_cons_of_mem _ (List.mem_append_right _ h)) hown hK hP (hts (.fieldLink RX12 132 "TalePlayModel" "items" "[J") (List.mem_cons_of_mem _ (List.mem_append_left _ (List.mem_append_right _ (List.mem_of_getElem? (i := 2) rfl))))) dX12_copy_175 ?_
                                  refine lv_bipush (v := 12) hx hb dX12_copy_178 (by decide) ?_
                                  refine lv_iload_n hx hb dX12_copy_180 rfl (lv_at hl 2 rfl) ?_
                                  refine lv_imul hx hb dX12_copy_181 ?_
                                  refine lv_topi (fun x114 ex114 => ?_)
                                  have tx114 := ti_mul (a := 12) (b := w.toInt) ex114 (by decide) rfl (by omega) (by omega)
                                  refine lv_iload_n hx hb dX12_copy_182 rfl (lv_at hl 4 rfl) ?_
                                  refine lv_iadd hx hb dX12_copy_183 ?_
                                  refine lv_topi (fun x115 ex115 => ?_)
                                  have tx115 := ti_add (a := (12 * w.toInt)) (b := n1.toInt) ex115 tx114 rfl (by omega) (by omega)
                                  refine lv_iload hx hb dX12_copy_184 (lv_at hl 0 rfl) ?_
                                  refine lv_iadd hx hb dX12_copy_186 ?_
                                  refine lv_topi (fun x116 ex116 => ?_)
                                  have tx116 := ti_add (a := ((12 * w.toInt) + n1.toInt)) (b := y105_7.toInt) ex116 tx115 rfl (by omega) (by omega)
                                  refine mld_62 hx hb hK hP (vp_in_iff.mpr (by have h9 : x116.toInt = (((12 * w.toInt) + n1.toInt) + y105_7.toInt) := tx116; omega)) dX12_copy_187 (fun x117 ex117 => ?_)
                                  refine mst_68 hx hb hK hP hD hS (vp_in_iff.mpr (by have h9 : y105_7.toInt = y105_7.toInt := rfl; omega)) dX12_copy_188 (fun H locs hP hD hS => ?_)
                                  obtain ⟨x118, ex118⟩ : ∃ y : Int32, y = y105_7 + 1 := ⟨_, rfl⟩
                                  have tx118 := ti_add (a := y105_7.toInt) (b := 1) ex118 rfl (by decide) (by omega) (by omega)
                                  refine lv_iinc (v := x118) (lv' := [(7, .int x118), (0, .ref o), (1, .int w), (2, .int s1), (3, .int n1), (4, .int w2), (5, .int n2), (6, .int n3)]) hx hb dX12_copy_189 hl (k := 0) rfl (by rw [ex118]; rfl) (by decide) rfl (fun ls hl => ?_)
                                  refine lv_goto (tgt := 161) hx hb dX12_copy_192 (by decide) ?_
                                  exact ih105 i105 q105 c105 (updD d105 68 (y105_7 : Int32).toNatClampNeg x117) x118 hI (fr_w hfi (by decide)) (fr_w hfc (by decide)) (show 0 ≤ x118.toInt ∧ x118.toInt ≤ 12 from by have h50 : x118.toInt = (y105_7.toInt + 1) := tx118; omega) (by have h50 : x118.toInt = (y105_7.toInt + 1) := tx118; omega) _ _ _ hP hD hS (lv_sub hl [0, 1, 2, 3, 4, 5, 6, 7] rfl)
                            exact lp105 _ i q c d (0 : Int32) hI (fr_w hfi (by decide)) (fr_w hfc (by decide)) (show 0 ≤ (0 : Int32).toInt ∧ (0 : Int32).toInt ≤ 12 from by have h50 : (0 : Int32).toInt = 0 := (by decide); omega) (Nat.lt_succ_self _) _ _ _ hP hD hS (lv_sub hl [0, 1, 2, 3, 4, 5, 6, 7] rfl)
                          · have f104 := mt (lc_le (a := (n2.toInt + n3.toInt)) (b := x103.toInt) tx102 ((Int32.toInt_toInt64 x103).trans rfl)).mpr c104
                            refine lv_aload_n hx hb dX12_copy_152 rfl (lv_at hl 0 rfl) ?_
                            refine lv_iconst (v := 2) hx hb dX12_copy_153 (by decide) ?_
                            refine al_calli (va_runV (As := [.int 2]) (rest := []) ⟨hx, hb, hml, hown, hts⟩ (s_X12_meets l D H.size o a t i q c d 2 hI (show 1 ≤ 2 ∧ 2 ≤ 6 from by have h90 : (2 : Int32).toInt = 2 := (by decide); omega)) (cwV 1 hts gm_X12_copy_X12_meets rfl rfl rfl (by decide +kernel) ⟨Nat.le_of_ble_eq_true rfl, Nat.le_of_ble_eq_true rfl⟩) (pB_V hK hP hD (ci := 12) (q0 := 0) rfl rfl) rfl rfl hl.1 rfl (lv_room (Nat.le_of_ble_eq_true rfl)) dX12_copy_154 ⟨Nat.le_of_ble_eq_true rfl, Nat.le_of_ble_eq_true rfl⟩) hS hA hP hD (fun r119 u119 H locs hw119 hP hD hS => ?_)
                            obtain ⟨i119, q119, c119, d119⟩ := u119
                            have hw119 : r119 = (-3) ∧ mInv i119 c119 ∧ (∀ k, k ∉ ([0] : List Nat) → i119 k = i k) ∧ (∀ k, k ∉ ([1] : List Nat) → c119 k = c k) := hw119
                            obtain ⟨hw119, hI, hei119, hec119⟩ := hw119
                            have hfi : ∀ k, k ∉ ([0] : List Nat) → i119 k = i k := fr_z hfi hei119 (by decide) (by decide)
                            have hfc : ∀ k, k ∉ ([1] : List Nat) → c119 k = c k := fr_z hfc hec119 (by decide) (by decide)
                            have hP : va_P D vwCl (mW o a t i119 q119 c119 d119) H := hP
                            have hD : va_D A (mW o a t i119 q119 c119 d119) := hD
                            have hw119 : r119 = (-3) := hw119
                            subst hw119
                            exact rw_iret (i119, q119, c119, d119) hx hb hr hlocks hS (hK.sub (tys' := []) [] rfl) hP hD dX12_copy_157 ⟨trivial, hI, fr_w hfi (by decide), fr_w hfc (by decide), (show (¬ (0 ≤ w.toInt ∧ w.toInt < (i 5).toInt ∧ 0 ≤ w2.toInt ∧ w2.toInt < (i 5).toInt ∧ 0 ≤ s1.toInt ∧ s1.toInt ≤ 3) ∧ ((-3) : Int32).toInt = -1) ∨ (0 ≤ w.toInt ∧ w.toInt < (i 5).toInt ∧ 0 ≤ w2.toInt ∧ w2.toInt < (i 5).toInt ∧ 0 ≤ s1.toInt ∧ s1.toInt ≤ 3 ∧ ¬ (¬ (c 63 w.toNatClampNeg).toInt = 0 ∧ ¬ (c 63 w2.toNatClampNeg).toInt = 0 ∧ (c 60 w.toNatClampNeg).toInt = s1.toInt ∧ (c 60 w2.toNatClampNeg).toInt = s1.toInt ∧ 0 ≤ n1.toInt ∧ 0 ≤ n2.toInt ∧ 0 ≤ n3.toInt ∧ n1.toInt + n3.toInt ≤ (c 61 w.toNatClampNeg).toInt ∧ n2.toInt + n3.toInt ≤ (c 61 w2.toNatClampNeg).toInt) ∧ ((-3) : Int32).toInt = -3) ∨ (0 ≤ w.toInt ∧ w.toInt < (i 5).toInt ∧ 0 ≤ w2.toInt ∧ w2.toInt < (i 5).toInt ∧ 0 ≤ s1.toInt ∧ s1.toInt ≤ 3 ∧ ¬ (c 63 w.toNatClampNeg).toInt = 0 ∧ ¬ (c 63 w2.toNatClampNeg).toInt = 0 ∧ (c 60 w.toNatClampNeg).toInt = s1.toInt ∧ (c 60 w2.toNatClampNeg).toInt = s1.toInt ∧ 0 ≤ n1.toInt ∧ 0 ≤ n2.toInt ∧ 0 ≤ n3.toInt ∧ n1.toInt + n3.toInt ≤ (c 61 w.toNatClampNeg).toInt ∧ n2.toInt + n3.toInt ≤ (c 61 w2.toNatClampNeg).toInt ∧ ((-3) : Int32).toInt = 1) from by have h50 : ((-3) : Int32).toInt = -3 := (by decide); omega)⟩
                · have f91 := (ti_eq (a := x90.toInt) (b := 0) rfl (by decide)).mp c91
                  refine lv_aload_n hx hb dX12_copy_96 rfl (lv_at hl 0 rfl) ?_
                  refine lv_iconst (v := 1) hx hb dX12_copy_97 (by decide) ?_
                  refine al_calli (va_runV (As := [.int 1]) (rest := []) ⟨hx, hb, hml, hown, hts⟩ (s_X12_meets l D H.size o a t i q c d 1 hI (show 1 ≤ 1 ∧ 1 ≤ 6 from by have h90 : (1 : Int32).toInt = 1 := (by decide); omega)) (cwV 1 hts gm_X12_copy_X12_meets rfl rfl rfl (by decide +kernel) ⟨Nat.le_of_ble_eq_true rfl, Nat.le_of_ble_eq_true rfl⟩) (pB_V hK hP hD (ci := 12) (q0 := 0) rfl rfl) rfl rfl hl.1 rfl (lv_room (Nat.le_of_ble_eq_true rfl)) dX12_copy_98 ⟨Nat.le_of_ble_eq_true rfl, Nat.le_of_ble_eq_true rfl⟩) hS hA hP hD (fun r120 u120 H locs hw120 hP hD hS => ?_)
                  obtain ⟨i120, q120, c120, d120⟩ := u120
                  have hw120 : r120 = (-3) ∧ mInv i120 c120 ∧ (∀ k, k ∉ ([0] : List Nat) → i120 k = i k) ∧ (∀ k, k ∉ ([1] : List Nat) → c120 k = c k) := hw120
                  obtain ⟨hw120, hI, hei120, hec120⟩ := hw120
                  have hfi : ∀ k, k ∉ ([0] : List Nat) → i120 k = i k := fr_z hfi hei120 (by decide) (by decide)
                  have hfc : ∀ k, k ∉ ([1] : List Nat) → c120 k = c k := fr_z hfc hec120 (by decide) (by decide)
                  have hP : va_P D vwCl (mW o a t i120 q120 c120 d120) H := hP
                  have hD : va_D A (mW o a t i120 q120 c120 d120) := hD
                  have hw120 : r120 = (-3) := hw120
                  subst hw120
                  exact rw_iret (i120, q120, c120, d120) hx hb hr hlocks hS (hK.sub (tys' := []) [] rfl) hP hD dX12_copy_101 ⟨trivial, hI, fr_w hfi (by decide), fr_w hfc (by decide), (show (¬ (0 ≤ w.toInt ∧ w.toInt < (i 5).toInt ∧ 0 ≤ w2.toInt ∧ w2.toInt < (i 5).toInt ∧ 0 ≤ s1.toInt ∧ s1.toInt ≤ 3) ∧ ((-3) : Int32).toInt = -1) ∨ (0 ≤ w.toInt ∧ w.toInt < (i 5).toInt ∧ 0 ≤ w2.toInt ∧ w2.toInt < (i 5).toInt ∧ 0 ≤ s1.toInt ∧ s1.toInt ≤ 3 ∧ ¬ (¬ (c 63 w.toNatClampNeg).toInt = 0 ∧ ¬ (c 63 w2.toNatClampNeg).toInt = 0 ∧ (c 60 w.toNatClampNeg).toInt = s1.toInt ∧ (c 60 w2.toNatClampNeg).toInt = s1.toInt ∧ 0 ≤ n1.toInt ∧ 0 ≤ n2.toInt ∧ 0 ≤ n3.toInt ∧ n1.toInt + n3.toInt ≤ (c 61 w.toNatClampNeg).toInt ∧ n2.toInt + n3.toInt ≤ (c 61 w2.toNatClampNeg).toInt) ∧ ((-3) : Int32).toInt = -3) ∨ (0 ≤ w.toInt ∧ w.toInt < (i 5).toInt ∧ 0 ≤ w2.toInt ∧ w2.toInt < (i 5).toInt ∧ 0 ≤ s1.toInt ∧ s1.toInt ≤ 3 ∧ ¬ (c 63 w.toNatClampNeg).toInt = 0 ∧ ¬ (c 63 w2.toNatClampNeg).toInt = 0 ∧ (c 60 w.toNatClampNeg).toInt = s1.toInt ∧ (c 60 w2.toNatClampNeg).toInt = s1.toInt ∧ 0 ≤ n1.toInt ∧ 0 ≤ n2.toInt ∧ 0 ≤ n3.toInt ∧ n1.toInt + n3.toInt ≤ (c 61 w.toNatClampNeg).toInt ∧ n2.toInt + n3.toInt ≤ (c 61 w2.toNatClampNeg).toInt ∧ ((-3) : Int32).toInt = 1) from by have h50 : ((-3) : Int32).toInt = -3 := (by decide); omega)⟩
            · have f86 := mt (ti_eq (a := x85.toInt) (b := 0) rfl (by decide)).mpr c86
              refine lv_aload_n hx hb dX12_copy_60 rfl (lv_at hl 0 rfl) ?_
              refine mget_60 hx hb hts (fun _ h => List.mem_cons_of_mem _ (List.mem_append_right _ h)) hown hK hP (hts (.fieldLink RX12 126 "TalePlayModel" "lineSort" "[I") (List.mem_cons_of_mem _ (List.mem_append_left _ (List.mem_append_right _ (List.mem_of_getElem? (i := 4) rfl))))) dX12_copy_61 ?_
              refine lv_iload hx hb dX12_copy_64 (lv_at hl 4 rfl) ?_
              refine mld_60 hx hb hK hP (vp_in_iff.mpr (by have h9 : w2.toInt = w2.toInt := rfl; omega)) dX12_copy_66 (fun x121 ex121 => ?_)
              have rx121 : 0 ≤ x121.toInt ∧ x121.toInt ≤ 3 := by rw [ex121]; exact hI.2 60 _
              have gx121 : (c 60 (w2 : Int32).toNatClampNeg).toInt = x121.toInt := by rw [ex121]
              refine lv_iload_n hx hb dX12_copy_67 rfl (lv_at hl 2 rfl) ?_
              refine lv_icmp_eq (tgt := 77) hx hb dX12_copy_68 (by decide) (fun c122 => ?_) (fun c122 => ?_)
              · have f122 := (ti_eq (a := x121.toInt) (b := s1.toInt) rfl rfl).mp c122
                refine lv_aload_n hx hb dX12_copy_77 rfl (lv_at hl 0 rfl) ?_
                refine mget_63 hx hb hts (fun _ h => List.mem_cons_of_mem _ (List.mem_append_right _ h)) hown hK hP (hts (.fieldLink RX12 136 "TalePlayModel" "hasLine" "[Z") (List.mem_cons_of_mem _ (List.mem_append_left _ (List.mem_append_left _ (List.mem_of_getElem? (i := 10) rfl))))) dX12_copy_78 ?_
                refine lv_iload_n hx hb dX12_copy_81 rfl (lv_at hl 1 rfl) ?_
                refine mld_63 hx hb hK hP (vp_in_iff.mpr (by have h9 : w.toInt = w.toInt := rfl; omega)) dX12_copy_82 (fun x123 ex123 => ?_)
                have rx123 : 0 ≤ x123.toInt ∧ x123.toInt ≤ 1 := by rw [ex123]; exact hI.2 63 _
                have gx123 : (c 63 (w : Int32).toNatClampNeg).toInt = x123.toInt := by rw [ex123]
                refine lv_if_eq (tgt := 96) hx hb dX12_copy_83 (by decide) (fun c124 => ?_) (fun c124 => ?_)
                · have f124 := (ti_eq (a := x123.toInt) (b := 0) rfl (by decide)).mp c124
                  refine lv_aload_n hx hb dX12_copy_96 rfl (lv_at hl 0 rfl) ?_
                  refine lv_iconst (v := 1) hx hb dX12_copy_97 (by decide) ?_
                  refine al_calli (va_runV (As := [.int 1]) (rest := []) ⟨hx, hb, hml, hown, hts⟩ (s_X12_meets l D H.size o a t i q c d 1 hI (show 1 ≤ 1 ∧ 1 ≤ 6 from by have h90 : (1 : Int32).toInt = 1 := (by decide); omega)) (cwV 1 hts gm_X12_copy_X12_meets rfl rfl rfl (by decide +kernel) ⟨Nat.le_of_ble_eq_true rfl, Nat.le_of_ble_eq_true rfl⟩) (pB_V hK hP hD (ci := 12) (q0 := 0) rfl rfl) rfl rfl hl.1 rfl (lv_room (Nat.le_of_ble_eq_true rfl)) dX12_copy_98 ⟨Nat.le_of_ble_eq_true rfl, Nat.le_of_ble_eq_true rfl⟩) hS hA hP hD (fun r125 u125 H locs hw125 hP hD hS => ?_)
                  obtain ⟨i125, q125, c125, d125⟩ := u125
                  have hw125 : r125 = (-3) ∧ mInv i125 c125 ∧ (∀ k, k ∉ ([0] : List Nat) → i125 k = i k) ∧ (∀ k, k ∉ ([1] : List Nat) → c125 k = c k) := hw125
                  obtain ⟨hw125, hI, hei125, hec125⟩ := hw125
                  have hfi : ∀ k, k ∉ ([0] : List Nat) → i125 k = i k := fr_z hfi hei125 (by decide) (by decide)
                  have hfc : ∀ k, k ∉ ([1] : List Nat) → c125 k = c k := fr_z hfc hec125 (by decide) (by decide)
                  have hP : va_P D vwCl (mW o a t i125 q125 c125 d125) H := hP
                  have hD : va_D A (mW o a t i125 q125 c125 d125) := hD
                  have hw125 : r125 = (-3) := hw125
                  subst hw125
                  exact rw_iret (i125, q125, c125, d125) hx hb hr hlocks hS (hK.sub (tys' := []) [] rfl) hP hD dX12_copy_101 ⟨trivial, hI, fr_w hfi (by decide), fr_w hfc (by decide), (show (¬ (0 ≤ w.toInt ∧ w.toInt < (i 5).toInt ∧ 0 ≤ w2.toInt ∧ w2.toInt < (i 5).toInt ∧ 0 ≤ s1.toInt ∧ s1.toInt ≤ 3) ∧ ((-3) : Int32).toInt = -1) ∨ (0 ≤ w.toInt ∧ w.toInt < (i 5).toInt ∧ 0 ≤ w2.toInt ∧ w2.toInt < (i 5).toInt ∧ 0 ≤ s1.toInt ∧ s1.toInt ≤ 3 ∧ ¬ (¬ (c 63 w.toNatClampNeg).toInt = 0 ∧ ¬ (c 63 w2.toNatClampNeg).toInt = 0 ∧ (c 60 w.toNatClampNeg).toInt = s1.toInt ∧ (c 60 w2.toNatClampNeg).toInt = s1.toInt ∧ 0 ≤ n1.toInt ∧ 0 ≤ n2.toInt ∧ 0 ≤ n3.toInt ∧ n1.toInt + n3.toInt ≤ (c 61 w.toNatClampNeg).toInt ∧ n2.toInt + n3.toInt ≤ (c 61 w2.toNatClampNeg).toInt) ∧ ((-3) : Int32).toInt = -3) ∨ (0 ≤ w.toInt ∧ w.toInt < (i 5).toInt ∧ 0 ≤ w2.toInt ∧ w2.toInt < (i 5).toInt ∧ 0 ≤ s1.toInt ∧ s1.toInt ≤ 3 ∧ ¬ (c 63 w.toNatClampNeg).toInt = 0 ∧ ¬ (c 63 w2.toNatClampNeg).toInt = 0 ∧ (c 60 w.toNatClampNeg).toInt = s1.toInt ∧ (c 60 w2.toNatClampNeg).toInt = s1.toInt ∧ 0 ≤ n1.toInt ∧ 0 ≤ n2.toInt ∧ 0 ≤ n3.toInt ∧ n1.toInt + n3.toInt ≤ (c 61 w.toNatClampNeg).toInt ∧ n2.toInt + n3.toInt ≤ (c 61 w2.toNatClampNeg).toInt ∧ ((-3) : Int32).toInt = 1) from by have h50 : ((-3) : Int32).toInt = -3 := (by decide); omega)⟩
                · have f124 := mt (ti_eq (a := x123.toInt) (b := 0) rfl (by decide)).mpr c124
                  refine lv_aload_n hx hb dX12_copy_86 rfl (lv_at hl 0 rfl) ?_
                  refine mget_63 hx hb hts (fun _ h => List.mem_cons_of_mem _ (List.mem_append_right _ h)) hown hK hP (hts (.fieldLink RX12 136 "TalePlayModel" "hasLine" "[Z") (List.mem_cons_of_mem _ (List.mem_append_left _ (List.mem_append_left _ (List.mem_of_getElem? (i := 10) rfl))))) dX12_copy_87 ?_
                  refine lv_iload hx hb dX12_copy_90 (lv_at hl 4 rfl) ?_
                  refine mld_63 hx hb hK hP (vp_in_iff.mpr (by have h9 : w2.toInt = w2.toInt := rfl; omega)) dX12_copy_92 (fun x126 ex126 => ?_)
                  have rx126 : 0 ≤ x126.toInt ∧ x126.toInt ≤ 1 := by rw [ex126]; exact hI.2 63 _
                  have gx126 : (c 63 (w2 : Int32).toNatClampNeg).toInt = x126.toInt := by rw [ex126]
                  refine lv_if_ne (tgt := 102) hx hb dX12_copy_93 (by decide) (fun c127 => ?_) (fun c127 => ?_)
                  · have f127 := mt (ti_eq (a := x126.toInt) (b := 0) rfl (by decide)).mpr c127
                    refine lv_iload_n hx hb dX12_copy_102 rfl (lv_at hl 3 rfl) ?_
                    refine lv_if_lt (tgt := 152) hx hb dX12_copy_103 (by decide) (fun c128 => ?_) (fun c128 => ?_)
                    · have f128 := (ti_lt (a := n1.toInt) (b := 0) rfl (by decide)).mp c128
                      refine lv_aload_n hx hb dX12_copy_152 rfl (lv_at hl 0 rfl) ?_
                      refine lv_iconst (v := 2) hx hb dX12_copy_153 (by decide) ?_
                      refine al_calli (va_runV (As := [.int 2]) (rest := []) ⟨hx, hb, hml, hown, hts⟩ (s_X12_meets l D H.size o a t i q c d 2 hI (show 1 ≤ 2 ∧ 2 ≤ 6 from by have h90 : (2 : Int32).toInt = 2 := (by decide); omega)) (cwV 1 hts gm_X12_copy_X12_meets rfl rfl rfl (by decide +kernel) ⟨Nat.le_of_ble_eq_true rfl, Nat.le_of_ble_eq_true rfl⟩) (pB_V hK hP hD (ci := 12) (q0 := 0) rfl rfl) rfl rfl hl.1 rfl (lv_room (Nat.le_of_ble_eq_true rfl)) dX12_copy_154 ⟨Nat.le_of_ble_eq_true rfl, Nat.le_of_ble_eq_true rfl⟩) hS hA hP hD (fun r129 u129 H locs hw129 hP hD hS => ?_)
                      obtain ⟨i129, q129, c129, d129⟩ := u129
                      have hw129 : r129 = (-3) ∧ mInv i129 c129 ∧ (∀ k, k ∉ ([0] : List Nat) → i129 k = i k) ∧ (∀ k, k ∉ ([1] : List Nat) → c129 k = c k) := hw129
                      obtain ⟨hw129, hI, hei129, hec129⟩ := hw129
                      have hfi : ∀ k, k ∉ ([0] : List Nat) → i129 k = i k := fr_z hfi hei129 (by decide) (by decide)
                      have hfc : ∀ k, k ∉ ([1] : List Nat) → c129 k = c k := fr_z hfc hec129 (by decide) (by decide)
                      have hP : va_P D vwCl (mW o a t i129 q129 c129 d129) H := hP
                      have hD : va_D A (mW o a t i129 q129 c129 d129) := hD
                      have hw129 : r129 = (-3) := hw129
                      subst hw129
                      exact rw_iret (i129, q129, c129, d129) hx hb hr hlocks hS (hK.sub (tys' := []) [] rfl) hP hD dX12_copy_157 ⟨trivial, hI, fr_w hfi (by decide), fr_w hfc (by decide), (show (¬ (0 ≤ w.toInt ∧ w.toInt < (i 5).toInt ∧ 0 ≤ w2.toInt ∧ w2.toInt < (i 5).toInt ∧ 0 ≤ s1.toInt ∧ s1.toInt ≤ 3) ∧ ((-3) : Int32).toInt = -1) ∨ (0 ≤ w.toInt ∧ w.toInt < (i 5).toInt ∧ 0 ≤ w2.toInt ∧ w2.toInt < (i 5).toInt ∧ 0 ≤ s1.toInt ∧ s1.toInt ≤ 3 ∧ ¬ (¬ (c 63 w.toNatClampNeg).toInt = 0 ∧ ¬ (c 63 w2.toNatClampNeg).toInt = 0 ∧ (c 60 w.toNatClampNeg).toInt = s1.toInt ∧ (c 60 w2.toNatClampNeg).toInt = s1.toInt ∧ 0 ≤ n1.toInt ∧ 0 ≤ n2.toInt ∧ 0 ≤ n3.toInt ∧ n1.toInt + n3.toInt ≤ (c 61 w.toNatClampNeg).toInt ∧ n2.toInt + n3.toInt ≤ (c 61 w2.toNatClampNeg).toInt) ∧ ((-3) : Int32).toInt = -3) ∨ (0 ≤ w.toInt ∧ w.toInt < (i 5).toInt ∧ 0 ≤ w2.toInt ∧ w2.toInt < (i 5).toInt ∧ 0 ≤ s1.toInt ∧ s1.toInt ≤ 3 ∧ ¬ (c 63 w.toNatClampNeg).toInt = 0 ∧ ¬ (c 63 w2.toNatClampNeg).toInt = 0 ∧ (c 60 w.toNatClampNeg).toInt = s1.toInt ∧ (c 60 w2.toNatClampNeg).toInt = s1.toInt ∧ 0 ≤ n1.toInt ∧ 0 ≤ n2.toInt ∧ 0 ≤ n3.toInt ∧ n1.toInt + n3.toInt ≤ (c 61 w.toNatClampNeg).toInt ∧ n2.toInt + n3.toInt ≤ (c 61 w2.toNatClampNeg).toInt ∧ ((-3) : Int32).toInt = 1) from by have h50 : ((-3) : Int32).toInt = -3 := (by decide); omega)⟩
                    · have f128 := mt (ti_lt (a := n1.toInt) (b := 0) rfl (by decide)).mpr c128
                      refine lv_iload hx hb dX12_copy_106 (lv_at hl 5 rfl) ?_
                      refine lv_if_lt (tgt := 152) hx hb dX12_copy_108 (by decide) (fun c130 => ?_) (fun c130 => ?_)
                      · have f130 := (ti_lt (a := n2.toInt) (b := 0) rfl (by decide)).mp c130
                        refine lv_aload_n hx hb dX12_copy_152 rfl (lv_at hl 0 rfl) ?_
                        refine lv_iconst (v := 2) hx hb dX12_copy_153 (by decide) ?_
                        refine al_calli (va_runV (As := [.int 2]) (rest := []) ⟨hx, hb, hml, hown, hts⟩ (s_X12_meets l D H.size o a t i q c d 2 hI (show 1 ≤ 2 ∧ 2 ≤ 6 from by have h90 : (2 : Int32).toInt = 2 := (by decide); omega)) (cwV 1 hts gm_X12_copy_X12_meets rfl rfl rfl (by decide +kernel) ⟨Nat.le_of_ble_eq_true rfl, Nat.le_of_ble_eq_true rfl⟩) (pB_V hK hP hD (ci := 12) (q0 := 0) rfl rfl) rfl rfl hl.1 rfl (lv_room (Nat.le_of_ble_eq_true rfl)) dX12_copy_154 ⟨Nat.le_of_ble_eq_true rfl, Nat.le_of_ble_eq_true rfl⟩) hS hA hP hD (fun r131 u131 H locs hw131 hP hD hS => ?_)
                        obtain ⟨i131, q131, c131, d131⟩ := u131
                        have hw131 : r131 = (-3) ∧ mInv i131 c131 ∧ (∀ k, k ∉ ([0] : List Nat) → i131 k = i k) ∧ (∀ k, k ∉ ([1] : List Nat) → c131 k = c k) := hw131
                        obtain ⟨hw131, hI, hei131, hec131⟩ := hw131
                        have hfi : ∀ k, k ∉ ([0] : List Nat) → i131 k = i k := fr_z hfi hei131 (by decide) (by decide)
                        have hfc : ∀ k, k ∉ ([1] : List Nat) → c131 k = c k := fr_z hfc hec131 (by decide) (by decide)
                        have hP : va_P D vwCl (mW o a t i131 q131 c131 d131) H := hP
                        have hD : va_D A (mW o a t i131 q131 c131 d131) := hD
                        have hw131 : r131 = (-3) := hw131
                        subst hw131
                        exact rw_iret (i131, q131, c131, d131) hx hb hr hlocks hS (hK.sub (tys' := []) [] rfl) hP hD dX12_copy_157 ⟨trivial, hI, fr_w hfi (by decide), fr_w hfc (by decide), (show (¬ (0 ≤ w.toInt ∧ w.toInt < (i 5).toInt ∧ 0 ≤ w2.toInt ∧ w2.toInt < (i 5).toInt ∧ 0 ≤ s1.toInt ∧ s1.toInt ≤ 3) ∧ ((-3) : Int32).toInt = -1) ∨ (0 ≤ w.toInt ∧ w.toInt < (i 5).toInt ∧ 0 ≤ w2.toInt ∧ w2.toInt < (i 5).toInt ∧ 0 ≤ s1.toInt ∧ s1.toInt ≤ 3 ∧ ¬ (¬ (c 63 w.toNatClampNeg).toInt = 0 ∧ ¬ (c 63 w2.toNatClampNeg).toInt = 0 ∧ (c 60 w.toNatClampNeg).toInt = s1.toInt ∧ (c 60 w2.toNatClampNeg).toInt = s1.toInt ∧ 0 ≤ n1.toInt ∧ 0 ≤ n2.toInt ∧ 0 ≤ n3.toInt ∧ n1.toInt + n3.toInt ≤ (c 61 w.toNatClampNeg).toInt ∧ n2.toInt + n3.toInt ≤ (c 61 w2.toNatClampNeg).toInt) ∧ ((-3) : Int32).toInt = -3) ∨ (0 ≤ w.toInt ∧ w.toInt < (i 5).toInt ∧ 0 ≤ w2.toInt ∧ w2.toInt < (i 5).toInt ∧ 0 ≤ s1.toInt ∧ s1.toInt ≤ 3 ∧ ¬ (c 63 w.toNatClampNeg).toInt = 0 ∧ ¬ (c 63 w2.toNatClampNeg).toInt = 0 ∧ (c 60 w.toNatClampNeg).toInt = s1.toInt ∧ (c 60 w2.toNatClampNeg).toInt = s1.toInt ∧ 0 ≤ n1.toInt ∧ 0 ≤ n2.toInt ∧ 0 ≤ n3.toInt ∧ n1.toInt + n3.toInt ≤ (c 61 w.toNatClampNeg).toInt ∧ n2.toInt + n3.toInt ≤ (c 61 w2.toNatClampNeg).toInt ∧ ((-3) : Int32).toInt = 1) from by have h50 : ((-3) : Int32).toInt = -3 := (by decide); omega)⟩
                      · have f130 := mt (ti_lt (a := n2.toInt) (b := 0) rfl (by decide)).mpr c130
                        refine lv_iload hx hb dX12_copy_111 (lv_at hl 6 rfl) ?_
                        refine lv_if_lt (tgt := 152) hx hb dX12_copy_113 (by decide) (fun c132 => ?_) (fun c132 => ?_)
                        · have f132 := (ti_lt (a := n3.toInt) (b := 0) rfl (by decide)).mp c132
                          refine lv_aload_n hx hb dX12_copy_152 rfl (lv_at hl 0 rfl) ?_
                          refine lv_iconst (v := 2) hx hb dX12_copy_153 (by decide) ?_
                          refine al_calli (va_runV (As := [.int 2]) (rest := []) ⟨hx, hb, hml, hown, hts⟩ (s_X12_meets l D H.size o a t i q c d 2 hI (show 1 ≤ 2 ∧ 2 ≤ 6 from by have h90 : (2 : Int32).toInt = 2 := (by decide); omega)) (cwV 1 hts gm_X12_copy_X12_meets rfl rfl rfl (by decide +kernel) ⟨Nat.le_of_ble_eq_true rfl, Nat.le_of_ble_eq_true rfl⟩) (pB_V hK hP hD (ci := 12) (q0 := 0) rfl rfl) rfl rfl hl.1 rfl (lv_room (Nat.le_of_ble_eq_true rfl)) dX12_copy_154 ⟨Nat.le_of_ble_eq_true rfl, Nat.le_of_ble_eq_true rfl⟩) hS hA hP hD (fun r133 u133 H locs hw133 hP hD hS => ?_)
                          obtain ⟨i133, q133, c133, d133⟩ := u133
                          have hw133 : r133 = (-3) ∧ mInv i133 c133 ∧ (∀ k, k ∉ ([0] : List Nat) → i133 k = i k) ∧ (∀ k, k ∉ ([1] : List Nat) → c133 k = c k) := hw133
                          obtain ⟨hw133, hI, hei133, hec133⟩ := hw133
                          have hfi : ∀ k, k ∉ ([0] : List Nat) → i133 k = i k := fr_z hfi hei133 (by decide) (by decide)
                          have hfc : ∀ k, k ∉ ([1] : List Nat) → c133 k = c k := fr_z hfc hec133 (by decide) (by decide)
                          have hP : va_P D vwCl (mW o a t i133 q133 c133 d133) H := hP
                          have hD : va_D A (mW o a t i133 q133 c133 d133) := hD
                          have hw133 : r133 = (-3) := hw133
                          subst hw133
                          exact rw_iret (i133, q133, c133, d133) hx hb hr hlocks hS (hK.sub (tys' := []) [] rfl) hP hD dX12_copy_157 ⟨trivial, hI, fr_w hfi (by decide), fr_w hfc (by decide), (show (¬ (0 ≤ w.toInt ∧ w.toInt < (i 5).toInt ∧ 0 ≤ w2.toInt ∧ w2.toInt < (i 5).toInt ∧ 0 ≤ s1.toInt ∧ s1.toInt ≤ 3) ∧ ((-3) : Int32).toInt = -1) ∨ (0 ≤ w.toInt ∧ w.toInt < (i 5).toInt ∧ 0 ≤ w2.toInt ∧ w2.toInt < (i 5).toInt ∧ 0 ≤ s1.toInt ∧ s1.toInt ≤ 3 ∧ ¬ (¬ (c 63 w.toNatClampNeg).toInt = 0 ∧ ¬ (c 63 w2.toNatClampNeg).toInt = 0 ∧ (c 60 w.toNatClampNeg).toInt = s1.toInt ∧ (c 60 w2.toNatClampNeg).toInt = s1.toInt ∧ 0 ≤ n1.toInt ∧ 0 ≤ n2.toInt ∧ 0 ≤ n3.toInt ∧ n1.toInt + n3.toInt ≤ (c 61 w.toNatClampNeg).toInt ∧ n2.toInt + n3.toInt ≤ (c 61 w2.toNatClampNeg).toInt) ∧ ((-3) : Int32).toInt = -3) ∨ (0 ≤ w.toInt ∧ w.toInt < (i 5).toInt ∧ 0 ≤ w2.toInt ∧ w2.toInt < (i 5).toInt ∧ 0 ≤ s1.toInt ∧ s1.toInt ≤ 3 ∧ ¬ (c 63 w.toNatClampNeg).toInt = 0 ∧ ¬ (c 63 w2.toNatClampNeg).toInt = 0 ∧ (c 60 w.toNatClampNeg).toInt = s1.toInt ∧ (c 60 w2.toNatClampNeg).toInt = s1.toInt ∧ 0 ≤ n1.toInt ∧ 0 ≤ n2.toInt ∧ 0 ≤ n3.toInt ∧ n1.toInt + n3.toInt ≤ (c 61 w.toNatClampNeg).toInt ∧ n2.toInt + n3.toInt ≤ (c 61 w2.toNatClampNeg).toInt ∧ ((-3) : Int32).toInt = 1) from by have h50 : ((-3) : Int32).toInt = -3 := (by decide); omega)⟩
                        · have f132 := mt (ti_lt (a := n3.toInt) (b := 0) rfl (by decide)).mpr c132
                          refine lv_iload_n hx hb dX12_copy_116 rfl (lv_at hl 3 rfl) ?_
                          refine lv_i2l (v := n1.toInt64) hx hb dX12_copy_117 rfl ?_
                          refine lv_iload hx hb dX12_copy_118 (lv_at hl 6 rfl) ?_
                          refine lv_i2l (v := n3.toInt64) hx hb dX12_copy_120 rfl ?_
                          refine lv_ladd hx hb dX12_copy_121 ?_
                          refine lv_topl (fun x134 ex134 => ?_)
                          have ib134_n1 := i32b n1
                          have ib134_n3 := i32b n3
                          have tx134 := ti_addl (a := n1.toInt) (b := n3.toInt) ex134 ((Int32.toInt_toInt64 n1).trans rfl) ((Int32.toInt_toInt64 n3).trans rfl) (by omega) (by omega)
                          refine lv_aload_n hx hb dX12_copy_122 rfl (lv_at hl 0 rfl) ?_
                          refine mget_61 hx hb hts (fun _ h => List.mem_cons_of_mem _ (List.mem_append_right _ h)) hown hK hP (hts (.fieldLink RX12 129 "TalePlayModel" "lineMany" "[I") (List.mem_cons_of_mem _ (List.mem_append_left _ (List.mem_append_right _ (List.mem_of_getElem? (i := 1) rfl))))) dX12_copy_123 ?_
                          refine lv_iload_n hx hb dX12_copy_126 rfl (lv_at hl 1 rfl) ?_
                          refine mld_61 hx hb hK hP (vp_in_iff.mpr (by have h9 : w.toInt = w.toInt := rfl; omega)) dX12_copy_127 (fun x135 ex135 => ?_)
                          have rx135 : 0 ≤ x135.toInt ∧ x135.toInt ≤ 12 := by rw [ex135]; exact hI.2 61 _
                          have gx135 : (c 61 (w : Int32).toNatClampNeg).toInt = x135.toInt := by rw [ex135]
                          refine lv_i2l (v := x135.toInt64) hx hb dX12_copy_128 rfl ?_
                          refine W.lcmp hx hb dX12_copy_129 ?_
                          refine lv_if_gt (tgt := 152) hx hb dX12_copy_130 (by decide) (fun c136 => ?_) (fun c136 => ?_)
                          · have f136 := (lc_gt (a := (n1.toInt + n3.toInt)) (b := x135.toInt) tx134 ((Int32.toInt_toInt64 x135).trans rfl)).mp c136
                            refine lv_aload_n hx hb dX12_copy_152 rfl (lv_at hl 0 rfl) ?_
                            refine lv_iconst (v := 2) hx hb dX12_copy_153 (by decide) ?_
                            refine al_calli (va_runV (As := [.int 2]) (rest := []) ⟨hx, hb, hml, hown, hts⟩ (s_X12_meets l D H.size o a t i q c d 2 hI (show 1 ≤ 2 ∧ 2 ≤ 6 from by have h90 : (2 : Int32).toInt = 2 := (by decide); omega)) (cwV 1 hts gm_X12_copy_X12_meets rfl rfl rfl (by decide +kernel) ⟨Nat.le_of_ble_eq_true rfl, Nat.le_of_ble_eq_true rfl⟩) (pB_V hK hP hD (ci := 12) (q0 := 0) rfl rfl) rfl rfl hl.1 rfl (lv_room (Nat.le_of_ble_eq_true rfl)) dX12_copy_154 ⟨Nat.le_of_ble_eq_true rfl, Nat.le_of_ble_eq_true rfl⟩) hS hA hP hD (fun r137 u137 H locs hw137 hP hD hS => ?_)
                            obtain ⟨i137, q137, c137, d137⟩ := u137
                            have hw137 : r137 = (-3) ∧ mInv i137 c137 ∧ (∀ k, k ∉ ([0] : List Nat) → i137 k = i k) ∧ (∀ k, k ∉ ([1] : List Nat) → c137 k = c k) := hw137
                            obtain ⟨hw137, hI, hei137, hec137⟩ := hw137
                            have hfi : ∀ k, k ∉ ([0] : List Nat) → i137 k = i k := fr_z hfi hei137 (by decide) (by decide)
                            have hfc : ∀ k, k ∉ ([1] : List Nat) → c137 k = c k := fr_z hfc hec137 (by decide) (by decide)
                            have hP : va_P D vwCl (mW o a t i137 q137 c137 d137) H := hP
                            have hD : va_D A (mW o a t i137 q137 c137 d137) := hD
                            have hw137 : r137 = (-3) := hw137
                            subst hw137
                            exact rw_iret (i137, q137, c137, d137) hx hb hr hlocks hS (hK.sub (tys' := []) [] rfl) hP hD dX12_copy_157 ⟨trivial, hI, fr_w hfi (by decide), fr_w hfc (by decide), (show (¬ (0 ≤ w.toInt ∧ w.toInt < (i 5).toInt ∧ 0 ≤ w2.toInt ∧ w2.toInt < (i 5).toInt ∧ 0 ≤ s1.toInt ∧ s1.toInt ≤ 3) ∧ ((-3) : Int32).toInt = -1) ∨ (0 ≤ w.toInt ∧ w.toInt < (i 5).toInt ∧ 0 ≤ w2.toInt ∧ w2.toInt < (i 5).toInt ∧ 0 ≤ s1.toInt ∧ s1.toInt ≤ 3 ∧ ¬ (¬ (c 63 w.toNatClampNeg).toInt = 0 ∧ ¬ (c 63 w2.toNatClampNeg).toInt = 0 ∧ (c 60 w.toNatClampNeg).toInt = s1.toInt ∧ (c 60 w2.toNatClampNeg).toInt = s1.toInt ∧ 0 ≤ n1.toInt ∧ 0 ≤ n2.toInt ∧ 0 ≤ n3.toInt ∧ n1.toInt + n3.toInt ≤ (c 61 w.toNatClampNeg).toInt ∧ n2.toInt + n3.toInt ≤ (c 61 w2.toNatClampNeg).toInt) ∧ ((-3) : Int32).toInt = -3) ∨ (0 ≤ w.toInt ∧ w.toInt < (i 5).toInt ∧ 0 ≤ w2.toInt ∧ w2.toInt < (i 5).toInt ∧ 0 ≤ s1.toInt ∧ s1.toInt ≤ 3 ∧ ¬ (c 63 w.toNatClampNeg).toInt = 0 ∧ ¬ (c 63 w2.toNatClampNeg).toInt = 0 ∧ (c 60 w.toNatClampNeg).toInt = s1.toInt ∧ (c 60 w2.toNatClampNeg).toInt = s1.toInt ∧ 0 ≤ n1.toInt ∧ 0 ≤ n2.toInt ∧ 0 ≤ n3.toInt ∧ n1.toInt + n3.toInt ≤ (c 61 w.toNatClampNeg).toInt ∧ n2.toInt + n3.toInt ≤ (c 61 w2.toNatClampNeg).toInt ∧ ((-3) : Int32).toInt = 1) from by have h50 : ((-3) : Int32).toInt = -3 := (by decide); omega)⟩
                          · have f136 := mt (lc_gt (a := (n1.toInt + n3.toInt)) (b := x135.toInt) tx134 ((Int32.toInt_toInt64 x135).trans rfl)).mpr c136
                            refine lv_iload hx hb dX12_copy_133 (lv_at hl 5 rfl) ?_
                            refine lv_i2l (v := n2.toInt64) hx hb dX12_copy_135 rfl ?_
                            refine lv_iload hx hb dX12_copy_136 (lv_at hl 6 rfl) ?_
                            refine lv_i2l (v := n3.toInt64) hx hb dX12_copy_138 rfl ?_
                            refine lv_ladd hx hb dX12_copy_139 ?_
                            refine lv_topl (fun x138 ex138 => ?_)
                            have ib138_n2 := i32b n2
                            have ib138_n3 := i32b n3
                            have tx138 := ti_addl (a := n2.toInt) (b := n3.toInt) ex138 ((Int32.toInt_toInt64 n2).trans rfl) ((Int32.toInt_toInt64 n3).trans rfl) (by omega) (by omega)
                            refine lv_aload_n hx hb dX12_copy_140 rfl (lv_at hl 0 rfl) ?_
                            refine mget_61 hx hb hts (fun _ h => List.mem_cons_of_mem _ (List.mem_append_right _ h)) hown hK hP (hts (.fieldLink RX12 129 "TalePlayModel" "lineMany" "[I") (List.mem_cons_of_mem _ (List.mem_append_left _ (List.mem_append_right _ (List.mem_of_getElem? (i := 1) rfl))))) dX12_copy_141 ?_
                            refine lv_iload hx hb dX12_copy_144 (lv_at hl 4 rfl) ?_
                            refine mld_61 hx hb hK hP (vp_in_iff.mpr (by have h9 : w2.toInt = w2.toInt := rfl; omega)) dX12_copy_146 (fun x139 ex139 => ?_)
                            have rx139 : 0 ≤ x139.toInt ∧ x139.toInt ≤ 12 := by rw [ex139]; exact hI.2 61 _
                            have gx139 : (c 61 (w2 : Int32).toNatClampNeg).toInt = x139.toInt := by rw [ex139]
                            refine lv_i2l (v := x139.toInt64) hx hb dX12_copy_147 rfl ?_
                            refine W.lcmp hx hb dX12_copy_148 ?_
                            refine lv_if_le (tgt := 158) hx hb dX12_copy_149 (by decide) (fun c140 => ?_) (fun c140 => ?_)
                            · have f140 := (lc_le (a := (n2.toInt + n3.toInt)) (b := x139.toInt) tx138 ((Int32.toInt_toInt64 x139).trans rfl)).mp c140
                              refine lv_iconst (v := 0) hx hb dX12_copy_158 (by decide) ?_
                              refine lv_istore (lv' := [(7, .int 0), (0, .ref o), (1, .int w), (2, .int s1), (3, .int n1), (4, .int w2), (5, .int n2), (6, .int n3)]) hx hb dX12_copy_159 hl (by decide) rfl (fun ls hl => ?_)
                              have lp141 : ∀ (fu : Nat) (i141 : Nat → Int32) (q141 : Int64) (c141 : Nat → Nat → Int32) (d141 : Nat → Nat → Int64) (y141_7 : Int32), mInv i141 c141 → (∀ k, k ∉ ([] : List Nat) → i141 k = i k) → (∀ k, k ∉ ([] : List Nat) → c141 k = c k) → (0 ≤ y141_7.toInt ∧ y141_7.toInt ≤ 12) → (12 - y141_7.toInt).toNat < fu → ∀ (H : Heap) (locs : List Loc) (ls : Array Slot), va_P D vwCl (mW o a t i141 q141 c141 d141) H → va_D A (mW o a t i141 q141 c141 d141) → va_S A s.heap H locs → lv_has ls 8 [(7, .int y141_7), (0, .ref o), (1, .int w), (2, .int s1), (3, .int n1), (4, .int w2), (5, .int n2), (6, .int n3)] → W p l e (headSpec wm_X12_copy ({ frames := 2, cells := 0, slots := 0, locals := 46 })).room s m ([.ref o, .int w, .int s1, .int n1, .int w2, .int n2, .int n3] : List Value).toArray below meth cd H locs 0 0 (MQ below (va_Qi (fun (r : Int32) (u : MS) => True ∧ mInv u.1 u.2.2.1 ∧ (∀ k, k ∉ ([0] : List Nat) → u.1 k = i k) ∧ (∀ k, k ∉ ([1] : List Nat) → u.2.2.1 k = c k) ∧ ((¬ (0 ≤ w.toInt ∧ w.toInt < (i 5).toInt ∧ 0 ≤ w2.toInt ∧ w2.toInt < (i 5).toInt ∧ 0 ≤ s1.toInt ∧ s1.toInt ≤ 3) ∧ r.toInt = -1) ∨ (0 ≤ w.toInt ∧ w.toInt < (i 5).toInt ∧ 0 ≤ w2.toInt ∧ w2.toInt < (i 5).toInt ∧ 0 ≤ s1.toInt ∧ s1.toInt ≤ 3 ∧ ¬ (¬ (c 63 w.toNatClampNeg).toInt = 0 ∧ ¬ (c 63 w2.toNatClampNeg).toInt = 0 ∧ (c 60 w.toNatClampNeg).toInt = s1.toInt ∧ (c 60 w2.toNatClampNeg).toInt = s1.toInt ∧ 0 ≤ n1.toInt ∧ 0 ≤ n2.toInt ∧ 0 ≤ n3.toInt ∧ n1.toInt + n3.toInt ≤ (c 61 w.toNatClampNeg).toInt ∧ n2.toInt + n3.toInt ≤ (c 61 w2.toNatClampNeg).toInt) ∧ r.toInt = -3) ∨ (0 ≤ w.toInt ∧ w.toInt < (i 5).toInt ∧ 0 ≤ w2.toInt ∧ w2.toInt < (i 5).toInt ∧ 0 ≤ s1.toInt ∧ s1.toInt ≤ 3 ∧ ¬ (c 63 w.toNatClampNeg).toInt = 0 ∧ ¬ (c 63 w2.toNatClampNeg).toInt = 0 ∧ (c 60 w.toNatClampNeg).toInt = s1.toInt ∧ (c 60 w2.toNatClampNeg).toInt = s1.toInt ∧ 0 ≤ n1.toInt ∧ 0 ≤ n2.toInt ∧ 0 ≤ n3.toInt ∧ n1.toInt + n3.toInt ≤ (c 61 w.toNatClampNeg).toInt ∧ n2.toInt + n3.toInt ≤ (c 61 w2.toNatClampNeg).toInt ∧ r.toInt = 1))) (oC D A (fun u : MS => mW o a t u.1 u.2.1 u.2.2.1 u.2.2.2) (fun _ => [])) A) ([.ref o, .int w, .int s1, .int n1, .int w2, .int n2, .int n3] : List Value).toArray s 0 0 A) (F0 m 161 ls []) := by
                                intro fu
                                induction fu with
                                | zero => intro i141 q141 c141 d141 y141_7 hI hfi hfc hy141_7 hm; exact absurd hm (Nat.not_lt_zero _)
                                | succ fu ih =>
                                  intro i141 q141 c141 d141 y141_7 hI hfi hfc hy141_7 hm H locs ls hP hD hS hl
                                  have ih141 := ih
                                  refine lv_iload hx hb dX12_copy_161 (lv_at hl 0 rfl) ?_
                                  refine lv_iload hx hb dX12_copy_163 (lv_at hl 7 rfl) ?_
                                  refine lv_icmp_ge (tgt := 195) hx hb dX12_copy_165 (by decide) (fun c142 => ?_) (fun c142 => ?_)
                                  · have f142 := (ti_le (a := n3.toInt) (b := y141_7.toInt) rfl rfl).mp c142
                                    refine lv_iconst (v := 0) hx hb dX12_copy_195 (by decide) ?_
                                    refine lv_istore (lv' := [(7, .int 0), (0, .ref o), (1, .int w), (2, .int s1), (3, .int n1), (4, .int w2), (5, .int n2), (6, .int n3)]) hx hb dX12_copy_196 hl (by decide) rfl (fun ls hl => ?_)
                                    have lp143 : ∀ (fu : Nat) (i143 : Nat → Int32) (q143 : Int64) (c143 : Nat → Nat → Int32) (d143 : Nat → Nat → Int64) (y143_7 : Int32), mInv i143 c143 → (∀ k, k ∉ ([] : List Nat) → i143 k = i k) → (∀ k, k ∉ ([] : List Nat) → c143 k = c k) → (0 ≤ y143_7.toInt ∧ y143_7.toInt ≤ 12) → (12 - y143_7.toInt).toNat < fu → ∀ (H : Heap) (locs : List Loc) (ls : Array Slot), va_P D vwCl (mW o a t i143 q143 c143 d143) H → va_D A (mW o a t i143 q143 c143 d143) → va_S A s.heap H locs → lv_has ls 8 [(7, .int y143_7), (0, .ref o), (1, .int w), (2, .int s1), (3, .int n1), (4, .int w2), (5, .int n2), (6, .int n3)] → W p l e (headSpec wm_X12_copy ({ frames := 2, cells := 0, slots := 0, locals := 46 })).room s m ([.ref o, .int w, .int s1, .int n1, .int w2, .int n2, .int n3] : List Value).toArray below meth cd H locs 0 0 (MQ below (va_Qi (fun (r : Int32) (u : MS) => True ∧ mInv u.1 u.2.2.1 ∧ (∀ k, k ∉ ([0] : List Nat) → u.1 k = i k) ∧ (∀ k, k ∉ ([1] : List Nat) → u.2.2.1 k = c k) ∧ ((¬ (0 ≤ w.toInt ∧ w.toInt < (i 5).toInt ∧ 0 ≤ w2.toInt ∧ w2.toInt < (i 5).toInt ∧ 0 ≤ s1.toInt ∧ s1.toInt ≤ 3) ∧ r.toInt = -1) ∨ (0 ≤ w.toInt ∧ w.toInt < (i 5).toInt ∧ 0 ≤ w2.toInt ∧ w2.toInt < (i 5).toInt ∧ 0 ≤ s1.toInt ∧ s1.toInt ≤ 3 ∧ ¬ (¬ (c 63 w.toNatClampNeg).toInt = 0 ∧ ¬ (c 63 w2.toNatClampNeg).toInt = 0 ∧ (c 60 w.toNatClampNeg).toInt = s1.toInt ∧ (c 60 w2.toNatClampNeg).toInt = s1.toInt ∧ 0 ≤ n1.toInt ∧ 0 ≤ n2.toInt ∧ 0 ≤ n3.toInt ∧ n1.toInt + n3.toInt ≤ (c 61 w.toNatClampNeg).toInt ∧ n2.toInt + n3.toInt ≤ (c 61 w2.toNatClampNeg).toInt) ∧ r.toInt = -3) ∨ (0 ≤ w.toInt ∧ w.toInt < (i 5).toInt ∧ 0 ≤ w2.toInt ∧ w2.toInt < (i 5).toInt ∧ 0 ≤ s1.toInt ∧ s1.toInt ≤ 3 ∧ ¬ (c 63 w.toNatClampNeg).toInt = 0 ∧ ¬ (c 63 w2.toNatClampNeg).toInt = 0 ∧ (c 60 w.toNatClampNeg).toInt = s1.toInt ∧ (c 60 w2.toNatClampNeg).toInt = s1.toInt ∧ 0 ≤ n1.toInt ∧ 0 ≤ n2.toInt ∧ 0 ≤ n3.toInt ∧ n1.toInt + n3.toInt ≤ (c 61 w.toNatClampNeg).toInt ∧ n2.toInt + n3.toInt ≤ (c 61 w2.toNatClampNeg).toInt ∧ r.toInt = 1))) (oC D A (fun u : MS => mW o a t u.1 u.2.1 u.2.2.1 u.2.2.2) (fun _ => [])) A) ([.ref o, .int w, .int s1, .int n1, .int w2, .int n2, .int n3] : List Value).toArray s 0 0 A) (F0 m 198 ls []) := by
                                      intro fu
                                      induction fu with
                                      | zero => intro i143 q143 c143 d143 y143_7 hI hfi hfc hy143_7 hm; exact absurd hm (Nat.not_lt_zero _)
                                      | succ fu ih =>
                                        intro i143 q143 c143 d143 y143_7 hI hfi hfc hy143_7 hm H locs ls hP hD hS hl
                                        have ih143 := ih
                                        refine lv_iload hx hb dX12_copy_198 (lv_at hl 0 rfl) ?_
                                        refine lv_iload hx hb dX12_copy_200 (lv_at hl 7 rfl) ?_
                                        refine lv_icmp_ge (tgt := 234) hx hb dX12_copy_202 (by decide) (fun c144 => ?_) (fun c144 => ?_)
                                        · have f144 := (ti_le (a := n3.toInt) (b := y143_7.toInt) rfl rfl).mp c144
                                          refine lv_iconst (v := 1) hx hb dX12_copy_234 (by decide) ?_
                                          exact rw_iret (i143, q143, c143, d143) hx hb hr hlocks hS (hK.sub (tys' := []) [] rfl) hP hD dX12_copy_235 ⟨trivial, hI, fr_w hfi (by decide), fr_w hfc (by decide), (show (¬ (0 ≤ w.toInt ∧ w.toInt < (i 5).toInt ∧ 0 ≤ w2.toInt ∧ w2.toInt < (i 5).toInt ∧ 0 ≤ s1.toInt ∧ s1.toInt ≤ 3) ∧ (1 : Int32).toInt = -1) ∨ (0 ≤ w.toInt ∧ w.toInt < (i 5).toInt ∧ 0 ≤ w2.toInt ∧ w2.toInt < (i 5).toInt ∧ 0 ≤ s1.toInt ∧ s1.toInt ≤ 3 ∧ ¬ (¬ (c 63 w.toNatClampNeg).toInt = 0 ∧ ¬ (c 63 w2.toNatClampNeg).toInt = 0 ∧ (c 60 w.toNatClampNeg).toInt = s1.toInt ∧ (c 60 w2.toNatClampNeg).toInt = s1.toInt ∧ 0 ≤ n1.toInt ∧ 0 ≤ n2.toInt ∧ 0 ≤ n3.toInt ∧ n1.toInt + n3.toInt ≤ (c 61 w.toNatClampNeg).toInt ∧ n2.toInt + n3.toInt ≤ (c 61 w2.toNatClampNeg).toInt) ∧ (1 : Int32).toInt = -3) ∨ (0 ≤ w.toInt ∧ w.toInt < (i 5).toInt ∧ 0 ≤ w2.toInt ∧ w2.toInt < (i 5).toInt ∧ 0 ≤ s1.toInt ∧ s1.toInt ≤ 3 ∧ ¬ (c 63 w.toNatClampNeg).toInt = 0 ∧ ¬ (c 63 w2.toNatClampNeg).toInt = 0 ∧ (c 60 w.toNatClampNeg).toInt = s1.toInt ∧ (c 60 w2.toNatClampNeg).toInt = s1.toInt ∧ 0 ≤ n1.toInt ∧ 0 ≤ n2.toInt ∧ 0 ≤ n3.toInt ∧ n1.toInt + n3.toInt ≤ (c 61 w.toNatClampNeg).toInt ∧ n2.toInt + n3.toInt ≤ (c 61 w2.toNatClampNeg).toInt ∧ (1 : Int32).toInt = 1) from by have h50 : (1 : Int32).toInt = 1 := (by decide); omega)⟩
                                        · have f144 := mt (ti_le (a := n3.toInt) (b := y143_7.toInt) rfl rfl).mpr c144
                                          refine lv_aload_n hx hb dX12_copy_205 rfl (lv_at hl 1 rfl) ?_
                                          refine mget_62 hx hb hts (fun _ h => List.mem_cons_of_mem _ (List.mem_append_right _ h)) hown hK hP (hts (.fieldLink RX12 132 "TalePlayModel" "items" "[J") (List.mem_cons_of_mem _ (List.mem_append_left _ (List.mem_append_right _ (List.mem_of_getElem? (i := 2) rfl))))) dX12_copy_206 ?_
                                          refine lv_bipush (v := 12) hx hb dX12_copy_209 (by decide) ?_
                                          refine lv_iload hx hb dX12_copy_211 (lv_at hl 5 rfl) ?_
                                          refine lv_imul hx hb dX12_copy_213 ?_
                                          refine lv_topi (fun x145 ex145 => ?_)
                                          have tx145 := ti_mul (a := 12) (b := w2.toInt) ex145 (by decide) rfl (by omega) (by omega)
                                          refine lv_iload hx hb dX12_copy_214 (lv_at hl 6 rfl) ?_
                                          refine lv_iadd hx hb dX12_copy_216 ?_
                                          refine lv_topi (fun x146 ex146 => ?_)
                                          have tx146 := ti_add (a := (12 * w2.toInt)) (b := n2.toInt) ex146 tx145 rfl (by omega) (by omega)
                                          refine lv_iload hx hb dX12_copy_217 (lv_at hl 0 rfl) ?_
                                          refine lv_iadd hx hb dX12_copy_219 ?_
                                          refine lv_topi (fun x147 ex147 => ?_)
                                          have tx147 := ti_add (a := ((12 * w2.toInt) + n2.toInt)) (b := y143_7.toInt) ex147 tx146 rfl (by omega) (by omega)
                                          refine lv_aload_n hx hb dX12_copy_220 rfl (lv_at hl 1 rfl) ?_
                                          refine mget_68 hx hb hts (fun _ h => List.mem_cons_of_mem _ (List.mem_append_right _ h)) hown hK hP (hts (.fieldLink RX12 148 "TalePlayModel" "held" "[J") (List.mem_cons_of_mem _ (List.mem_append_left _ (List.mem_append_right _ (List.mem_of_getElem? (i := 3) rfl))))) dX12_copy_221 ?_
                                          refine lv_iload hx hb dX12_copy_224 (lv_at hl 0 rfl) ?_
                                          refine mld_68 hx hb hK hP (vp_in_iff.mpr (by have h9 : y143_7.toInt = y143_7.toInt := rfl; omega)) dX12_copy_226 (fun x148 ex148 => ?_)
                                          refine mst_62 hx hb hK hP hD hS (vp_in_iff.mpr (by have h9 : x147.toInt = (((12 * w2.toInt) + n2.toInt) + y143_7.toInt) := tx147; omega)) dX12_copy_227 (fun H locs hP hD hS => ?_)
                                          obtain ⟨x149, ex149⟩ : ∃ y : Int32, y = y143_7 + 1 := ⟨_, rfl⟩
                                          have tx149 := ti_add (a := y143_7.toInt) (b := 1) ex149 rfl (by decide) (by omega) (by omega)
                                          refine lv_iinc (v := x149) (lv' := [(7, .int x149), (0, .ref o), (1, .int w), (2, .int s1), (3, .int n1), (4, .int w2), (5, .int n2), (6, .int n3)]) hx hb dX12_copy_228 hl (k := 0) rfl (by rw [ex149]; rfl) (by decide) rfl (fun ls hl => ?_)
                                          refine lv_goto (tgt := 198) hx hb dX12_copy_231 (by decide) ?_
                                          exact ih143 i143 q143 c143 (updD d143 62 (x147 : Int32).toNatClampNeg x148) x149 hI (fr_w hfi (by decide)) (fr_w hfc (by decide)) (show 0 ≤ x149.toInt ∧ x149.toInt ≤ 12 from by have h50 : x149.toInt = (y143_7.toInt + 1) := tx149; omega) (by have h50 : x149.toInt = (y143_7.toInt + 1) := tx149; omega) _ _ _ hP hD hS (lv_sub hl [0, 1, 2, 3, 4, 5, 6, 7] rfl)
                                    exact lp143 _ i141 q141 c141 d141 (0 : Int32) hI (fr_w hfi (by decide)) (fr_w hfc (by decide)) (show 0 ≤ (0 : Int32).toInt ∧ (0 : Int32).toInt ≤ 12 from by have h50 : (0 : Int32).toInt = 0 := (by decide); omega) (Nat.lt_succ_self _) _ _ _ hP hD hS (lv_sub hl [0, 1, 2, 3, 4, 5, 6, 7] rfl)
                                  · have f142 := mt (ti_le (a := n3.toInt) (b := y141_7.toInt) rfl rfl).mpr c142
                                    refine lv_aload_n hx hb dX12_copy_168 rfl (lv_at hl 1 rfl) ?_
                                    refine mget_68 hx hb hts (fun _ h => List.mem_cons_of_mem _ (List.mem_append_right _ h)) hown hK hP (hts (.fieldLink RX12 148 "TalePlayModel" "held" "[J") (List.mem_cons_of_mem _ (List.mem_append_left _ (List.mem_append_right _ (List.mem_of_getElem? (i := 3) rfl))))) dX12_copy_169 ?_
                                    refine lv_iload hx hb dX12_copy_172 (lv_at hl 0 rfl) ?_
                                    refine lv_aload_n hx hb dX12_copy_174 rfl (lv_at hl 1 rfl) ?_
                                    refine mget_62 hx hb hts (fun _ h => List.mem_cons_of_mem _ (List.mem_append_right _ h)) hown hK hP (hts (.fieldLink RX12 132 "TalePlayModel" "items" "[J") (List.mem_cons_of_mem _ (List.mem_append_left _ (List.mem_append_right _ (List.mem_of_getElem? (i := 2) rfl))))) dX12_copy_175 ?_
                                    refine lv_bipush (v := 12) hx hb dX12_copy_178 (by decide) ?_
                                    refine lv_iload_n hx hb dX12_copy_180 rfl (lv_at hl 2 rfl) ?_
                                    refine lv_imul hx hb dX12_copy_181 ?_
                                    refine lv_topi (fun x150 ex150 => ?_)
                                    have tx150 := ti_mul (a := 12) (b := w.toInt) ex150 (by decide) rfl (by omega) (by omega)
                                    refine lv_iload_n hx hb dX12_copy_182 rfl (lv_at hl 4 rfl) ?_
                                    refine lv_iadd hx hb dX12_copy_183 ?_
                                    refine lv_topi (fun x151 ex151 => ?_)
                                    have tx151 := ti_add (a := (12 * w.toInt)) (b := n1.toInt) ex151 tx150 rfl (by omega) (by omega)
                                    refine lv_iload hx hb dX12_copy_184 (lv_at hl 0 rfl) ?_
                                    refine lv_iadd hx hb dX12_copy_186 ?_
                                    refine lv_topi (fun x152 ex152 => ?_)
                                    have tx152 := ti_add (a := ((12 * w.toInt) + n1.toInt)) (b := y141_7.toInt) ex152 tx151 rfl (by omega) (by omega)
                                    refine mld_62 hx hb hK hP (vp_in_iff.mpr (by have h9 : x152.toInt = (((12 * w.toInt) + n1.toInt) + y141_7.toInt) := tx152; omega)) dX12_copy_187 (fun x153 ex153 => ?_)
                                    refine mst_68 hx hb hK hP hD hS (vp_in_iff.mpr (by have h9 : y141_7.toInt = y141_7.toInt := rfl; omega)) dX12_copy_188 (fun H locs hP hD hS => ?_)
                                    obtain ⟨x154, ex154⟩ : ∃ y : Int32, y = y141_7 + 1 := ⟨_, rfl⟩
                                    have tx154 := ti_add (a := y141_7.toInt) (b := 1) ex154 rfl (by decide) (by omega) (by omega)
                                    refine lv_iinc (v := x154) (lv' := [(7, .int x154), (0, .ref o), (1, .int w), (2, .int s1), (3, .int n1), (4, .int w2), (5, .int n2), (6, .int n3)]) hx hb dX12_copy_189 hl (k := 0) rfl (by rw [ex154]; rfl) (by decide) rfl (fun ls hl => ?_)
                                    refine lv_goto (tgt := 161) hx hb dX12_copy_192 (by decide) ?_
                                    exact ih141 i141 q141 c141 (updD d141 68 (y141_7 : Int32).toNatClampNeg x153) x154 hI (fr_w hfi (by decide)) (fr_w hfc (by decide)) (show 0 ≤ x154.toInt ∧ x154.toInt ≤ 12 from by have h50 : x154.toInt = (y141_7.toInt + 1) := tx154; omega) (by have h50 : x154.toInt = (y141_7.toInt + 1) := tx154; omega) _ _ _ hP hD hS (lv_sub hl [0, 1, 2, 3, 4, 5, 6, 7] rfl)
                              exact lp141 _ i q c d (0 : Int32) hI (fr_w hfi (by decide)) (fr_w hfc (by decide)) (show 0 ≤ (0 : Int32).toInt ∧ (0 : Int32).toInt ≤ 12 from by have h50 : (0 : Int32).toInt = 0 := (by decide); omega) (Nat.lt_succ_self _) _ _ _ hP hD hS (lv_sub hl [0, 1, 2, 3, 4, 5, 6, 7] rfl)
                            · have f140 := mt (lc_le (a := (n2.toInt + n3.toInt)) (b := x139.toInt) tx138 ((Int32.toInt_toInt64 x139).trans rfl)).mpr c140
                              refine lv_aload_n hx hb dX12_copy_152 rfl (lv_at hl 0 rfl) ?_
                              refine lv_iconst (v := 2) hx hb dX12_copy_153 (by decide) ?_
                              refine al_calli (va_runV (As := [.int 2]) (rest := []) ⟨hx, hb, hml, hown, hts⟩ (s_X12_meets l D H.size o a t i q c d 2 hI (show 1 ≤ 2 ∧ 2 ≤ 6 from by have h90 : (2 : Int32).toInt = 2 := (by decide); omega)) (cwV 1 hts gm_X12_copy_X12_meets rfl rfl rfl (by decide +kernel) ⟨Nat.le_of_ble_eq_true rfl, Nat.le_of_ble_eq_true rfl⟩) (pB_V hK hP hD (ci := 12) (q0 := 0) rfl rfl) rfl rfl hl.1 rfl (lv_room (Nat.le_of_ble_eq_true rfl)) dX12_copy_154 ⟨Nat.le_of_ble_eq_true rfl, Nat.le_of_ble_eq_true rfl⟩) hS hA hP hD (fun r155 u155 H locs hw155 hP hD hS => ?_)
                              obtain ⟨i155, q155, c155, d155⟩ := u155
                              have hw155 : r155 = (-3) ∧ mInv i155 c155 ∧ (∀ k, k ∉ ([0] : List Nat) → i155 k = i k) ∧ (∀ k, k ∉ ([1] : List Nat) → c155 k = c k) := hw155
                              obtain ⟨hw155, hI, hei155, hec155⟩ := hw155
                              have hfi : ∀ k, k ∉ ([0] : List Nat) → i155 k = i k := fr_z hfi hei155 (by decide) (by decide)
                              have hfc : ∀ k, k ∉ ([1] : List Nat) → c155 k = c k := fr_z hfc hec155 (by decide) (by decide)
                              have hP : va_P D vwCl (mW o a t i155 q155 c155 d155) H := hP
                              have hD : va_D A (mW o a t i155 q155 c155 d155) := hD
                              have hw155 : r155 = (-3) := hw155
                              subst hw155
                              exact rw_iret (i155, q155, c155, d155) hx hb hr hlocks hS (hK.sub (tys' := []) [] rfl) hP hD dX12_copy_157 ⟨trivial, hI, fr_w hfi (by decide), fr_w hfc (by decide), (show (¬ (0 ≤ w.toInt ∧ w.toInt < (i 5).toInt ∧ 0 ≤ w2.toInt ∧ w2.toInt < (i 5).toInt ∧ 0 ≤ s1.toInt ∧ s1.toInt ≤ 3) ∧ ((-3) : Int32).toInt = -1) ∨ (0 ≤ w.toInt ∧ w.toInt < (i 5).toInt ∧ 0 ≤ w2.toInt ∧ w2.toInt < (i 5).toInt ∧ 0 ≤ s1.toInt ∧ s1.toInt ≤ 3 ∧ ¬ (¬ (c 63 w.toNatClampNeg).toInt = 0 ∧ ¬ (c 63 w2.toNatClampNeg).toInt = 0 ∧ (c 60 w.toNatClampNeg).toInt = s1.toInt ∧ (c 60 w2.toNatClampNeg).toInt = s1.toInt ∧ 0 ≤ n1.toInt ∧ 0 ≤ n2.toInt ∧ 0 ≤ n3.toInt ∧ n1.toInt + n3.toInt ≤ (c 61 w.toNatClampNeg).toInt ∧ n2.toInt + n3.toInt ≤ (c 61 w2.toNatClampNeg).toInt) ∧ ((-3) : Int32).toInt = -3) ∨ (0 ≤ w.toInt ∧ w.toInt < (i 5).toInt ∧ 0 ≤ w2.toInt ∧ w2.toInt < (i 5).toInt ∧ 0 ≤ s1.toInt ∧ s1.toInt ≤ 3 ∧ ¬ (c 63 w.toNatClampNeg).toInt = 0 ∧ ¬ (c 63 w2.toNatClampNeg).toInt = 0 ∧ (c 60 w.toNatClampNeg).toInt = s1.toInt ∧ (c 60 w2.toNatClampNeg).toInt = s1.toInt ∧ 0 ≤ n1.toInt ∧ 0 ≤ n2.toInt ∧ 0 ≤ n3.toInt ∧ n1.toInt + n3.toInt ≤ (c 61 w.toNatClampNeg).toInt ∧ n2.toInt + n3.toInt ≤ (c 61 w2.toNatClampNeg).toInt ∧ ((-3) : Int32).toInt = 1) from by have h50 : ((-3) : Int32).toInt = -3 := (by decide); omega)⟩
                  · have f127 := (ti_eq (a := x126.toInt) (b := 0) rfl (by decide)).mp c127
                    refine lv_aload_n hx hb dX12_copy_96 rfl (lv_at hl 0 rfl) ?_
                    refine lv_iconst (v := 1) hx hb dX12_copy_97 (by decide) ?_
                    refine al_calli (va_runV (As := [.int 1]) (rest := []) ⟨hx, hb, hml, hown, hts⟩ (s_X12_meets l D H.size o a t i q c d 1 hI (show 1 ≤ 1 ∧ 1 ≤ 6 from by have h90 : (1 : Int32).toInt = 1 := (by decide); omega)) (cwV 1 hts gm_X12_copy_X12_meets rfl rfl rfl (by decide +kernel) ⟨Nat.le_of_ble_eq_true rfl, Nat.le_of_ble_eq_true rfl⟩) (pB_V hK hP hD (ci := 12) (q0 := 0) rfl rfl) rfl rfl hl.1 rfl (lv_room (Nat.le_of_ble_eq_true rfl)) dX12_copy_98 ⟨Nat.le_of_ble_eq_true rfl, Nat.le_of_ble_eq_true rfl⟩) hS hA hP hD (fun r156 u156 H locs hw156 hP hD hS => ?_)
                    obtain ⟨i156, q156, c156, d156⟩ := u156
                    have hw156 : r156 = (-3) ∧ mInv i156 c156 ∧ (∀ k, k ∉ ([0] : List Nat) → i156 k = i k) ∧ (∀ k, k ∉ ([1] : List Nat) → c156 k = c k) := hw156
                    obtain ⟨hw156, hI, hei156, hec156⟩ := hw156
                    have hfi : ∀ k, k ∉ ([0] : List Nat) → i156 k = i k := fr_z hfi hei156 (by decide) (by decide)
                    have hfc : ∀ k, k ∉ ([1] : List Nat) → c156 k = c k := fr_z hfc hec156 (by decide) (by decide)
                    have hP : va_P D vwCl (mW o a t i156 q156 c156 d156) H := hP
                    have hD : va_D A (mW o a t i156 q156 c156 d156) := hD
                    have hw156 : r156 = (-3) := hw156
                    subst hw156
                    exact rw_iret (i156, q156, c156, d156) hx hb hr hlocks hS (hK.sub (tys' := []) [] rfl) hP hD dX12_copy_101 ⟨trivial, hI, fr_w hfi (by decide), fr_w hfc (by decide), (show (¬ (0 ≤ w.toInt ∧ w.toInt < (i 5).toInt ∧ 0 ≤ w2.toInt ∧ w2.toInt < (i 5).toInt ∧ 0 ≤ s1.toInt ∧ s1.toInt ≤ 3) ∧ ((-3) : Int32).toInt = -1) ∨ (0 ≤ w.toInt ∧ w.toInt < (i 5).toInt ∧ 0 ≤ w2.toInt ∧ w2.toInt < (i 5).toInt ∧ 0 ≤ s1.toInt ∧ s1.toInt ≤ 3 ∧ ¬ (¬ (c 63 w.toNatClampNeg).toInt = 0 ∧ ¬ (c 63 w2.toNatClampNeg).toInt = 0 ∧ (c 60 w.toNatClampNeg).toInt = s1.toInt ∧ (c 60 w2.toNatClampNeg).toInt = s1.toInt ∧ 0 ≤ n1.toInt ∧ 0 ≤ n2.toInt ∧ 0 ≤ n3.toInt ∧ n1.toInt + n3.toInt ≤ (c 61 w.toNatClampNeg).toInt ∧ n2.toInt + n3.toInt ≤ (c 61 w2.toNatClampNeg).toInt) ∧ ((-3) : Int32).toInt = -3) ∨ (0 ≤ w.toInt ∧ w.toInt < (i 5).toInt ∧ 0 ≤ w2.toInt ∧ w2.toInt < (i 5).toInt ∧ 0 ≤ s1.toInt ∧ s1.toInt ≤ 3 ∧ ¬ (c 63 w.toNatClampNeg).toInt = 0 ∧ ¬ (c 63 w2.toNatClampNeg).toInt = 0 ∧ (c 60 w.toNatClampNeg).toInt = s1.toInt ∧ (c 60 w2.toNatClampNeg).toInt = s1.toInt ∧ 0 ≤ n1.toInt ∧ 0 ≤ n2.toInt ∧ 0 ≤ n3.toInt ∧ n1.toInt + n3.toInt ≤ (c 61 w.toNatClampNeg).toInt ∧ n2.toInt + n3.toInt ≤ (c 61 w2.toNatClampNeg).toInt ∧ ((-3) : Int32).toInt = 1) from by have h50 : ((-3) : Int32).toInt = -3 := (by decide); omega)⟩
              · have f122 := mt (ti_eq (a := x121.toInt) (b := s1.toInt) rfl rfl).mpr c122
                refine lv_aload_n hx hb dX12_copy_71 rfl (lv_at hl 0 rfl) ?_
                refine lv_iconst (v := 3) hx hb dX12_copy_72 (by decide) ?_
                refine al_calli (va_runV (As := [.int 3]) (rest := []) ⟨hx, hb, hml, hown, hts⟩ (s_X12_meets l D H.size o a t i q c d 3 hI (show 1 ≤ 3 ∧ 3 ≤ 6 from by have h90 : (3 : Int32).toInt = 3 := (by decide); omega)) (cwV 1 hts gm_X12_copy_X12_meets rfl rfl rfl (by decide +kernel) ⟨Nat.le_of_ble_eq_true rfl, Nat.le_of_ble_eq_true rfl⟩) (pB_V hK hP hD (ci := 12) (q0 := 0) rfl rfl) rfl rfl hl.1 rfl (lv_room (Nat.le_of_ble_eq_true rfl)) dX12_copy_73 ⟨Nat.le_of_ble_eq_true rfl, Nat.le_of_ble_eq_true rfl⟩) hS hA hP hD (fun r157 u157 H locs hw157 hP hD hS => ?_)
                obtain ⟨i157, q157, c157, d157⟩ := u157
                have hw157 : r157 = (-3) ∧ mInv i157 c157 ∧ (∀ k, k ∉ ([0] : List Nat) → i157 k = i k) ∧ (∀ k, k ∉ ([1] : List Nat) → c157 k = c k) := hw157
                obtain ⟨hw157, hI, hei157, hec157⟩ := hw157
                have hfi : ∀ k, k ∉ ([0] : List Nat) → i157 k = i k := fr_z hfi hei157 (by decide) (by decide)
                have hfc : ∀ k, k ∉ ([1] : List Nat) → c157 k = c k := fr_z hfc hec157 (by decide) (by decide)
                have hP : va_P D vwCl (mW o a t i157 q157 c157 d157) H := hP
                have hD : va_D A (mW o a t i157 q157 c157 d157) := hD
                have hw157 : r157 = (-3) := hw157
                subst hw157
                exact rw_iret (i157, q157, c157, d157) hx hb hr hlocks hS (hK.sub (tys' := []) [] rfl) hP hD dX12_copy_76 ⟨trivial, hI, fr_w hfi (by decide), fr_w hfc (by decide), (show (¬ (0 ≤ w.toInt ∧ w.toInt < (i 5).toInt ∧ 0 ≤ w2.toInt ∧ w2.toInt < (i 5).toInt ∧ 0 ≤ s1.toInt ∧ s1.toInt ≤ 3) ∧ ((-3) : Int32).toInt = -1) ∨ (0 ≤ w.toInt ∧ w.toInt < (i 5).toInt ∧ 0 ≤ w2.toInt ∧ w2.toInt < (i 5).toInt ∧ 0 ≤ s1.toInt ∧ s1.toInt ≤ 3 ∧ ¬ (¬ (c 63 w.toNatClampNeg).toInt = 0 ∧ ¬ (c 63 w2.toNatClampNeg).toInt = 0 ∧ (c 60 w.toNatClampNeg).toInt = s1.toInt ∧ (c 60 w2.toNatClampNeg).toInt = s1.toInt ∧ 0 ≤ n1.toInt ∧ 0 ≤ n2.toInt ∧ 0 ≤ n3.toInt ∧ n1.toInt + n3.toInt ≤ (c 61 w.toNatClampNeg).toInt ∧ n2.toInt + n3.toInt ≤ (c 61 w2.toNatClampNeg).toInt) ∧ ((-3) : Int32).toInt = -3) ∨ (0 ≤ w.toInt ∧ w.toInt < (i 5).toInt ∧ 0 ≤ w2.toInt ∧ w2.toInt < (i 5).toInt ∧ 0 ≤ s1.toInt ∧ s1.toInt ≤ 3 ∧ ¬ (c 63 w.toNatClampNeg).toInt = 0 ∧ ¬ (c 63 w2.toNatClampNeg).toInt = 0 ∧ (c 60 w.toNatClampNeg).toInt = s1.toInt ∧ (c 60 w2.toNatClampNeg).toInt = s1.toInt ∧ 0 ≤ n1.toInt ∧ 0 ≤ n2.toInt ∧ 0 ≤ n3.toInt ∧ n1.toInt + n3.toInt ≤ (c 61 w.toNatClampNeg).toInt ∧ n2.toInt + n3.toInt ≤ (c 61 w2.toNatClampNeg).toInt ∧ ((-3) : Int32).toInt = 1) from by have h50 : ((-3) : Int32).toInt = -3 := (by decide); omega)⟩
      · have f6 := fl_f hw5 c6
        refine lv_iconst (v := (-1)) hx hb dX12_copy_29 (by decide) ?_
        exact rw_iret (i, q, c, d) hx hb hr hlocks hS (hK.sub (tys' := []) [] rfl) hP hD dX12_copy_30 ⟨trivial, hI, fr_w hfi (by decide), fr_w hfc (by decide), (show (¬ (0 ≤ w.toInt ∧ w.toInt < (i 5).toInt ∧ 0 ≤ w2.toInt ∧ w2.toInt < (i 5).toInt ∧ 0 ≤ s1.toInt ∧ s1.toInt ≤ 3) ∧ ((-1) : Int32).toInt = -1) ∨ (0 ≤ w.toInt ∧ w.toInt < (i 5).toInt ∧ 0 ≤ w2.toInt ∧ w2.toInt < (i 5).toInt ∧ 0 ≤ s1.toInt ∧ s1.toInt ≤ 3 ∧ ¬ (¬ (c 63 w.toNatClampNeg).toInt = 0 ∧ ¬ (c 63 w2.toNatClampNeg).toInt = 0 ∧ (c 60 w.toNatClampNeg).toInt = s1.toInt ∧ (c 60 w2.toNatClampNeg).toInt = s1.toInt ∧ 0 ≤ n1.toInt ∧ 0 ≤ n2.toInt ∧ 0 ≤ n3.toInt ∧ n1.toInt + n3.toInt ≤ (c 61 w.toNatClampNeg).toInt ∧ n2.toInt + n3.toInt ≤ (c 61 w2.toNatClampNeg).toInt) ∧ ((-1) : Int32).toInt = -3) ∨ (0 ≤ w.toInt ∧ w.toInt < (i 5).toInt ∧ 0 ≤ w2.toInt ∧ w2.toInt < (i 5).toInt ∧ 0 ≤ s1.toInt ∧ s1.toInt ≤ 3 ∧ ¬ (c 63 w.toNatClampNeg).toInt = 0 ∧ ¬ (c 63 w2.toNatClampNeg).toInt = 0 ∧ (c 60 w.toNatClampNeg).toInt = s1.toInt ∧ (c 60 w2.toNatClampNeg).toInt = s1.toInt ∧ 0 ≤ n1.toInt ∧ 0 ≤ n2.toInt ∧ 0 ≤ n3.toInt ∧ n1.toInt + n3.toInt ≤ (c 61 w.toNatClampNeg).toInt ∧ n2.toInt + n3.toInt ≤ (c 61 w2.toNatClampNeg).toInt ∧ ((-1) : Int32).toInt = 1) from by have h50 : ((-1) : Int32).toInt = -1 := (by decide); omega)⟩

