def wm_X12_isObject : List Cond := .code yX12_isObject cX12_isObject 2 (some .boolean) :: (([.fieldLink RX12 177 "TalePlayModel" "objects" "I", .methodLink RX12 166 yX12_in, .static yX12_in, .initialized RX12, .code yX12_in cX12_in 6 (some .boolean)] : List Cond) ++ wsX120)
set_option maxRecDepth 20000 in
theorem gm_X12_isObject_X12_in : GoodIn wm_X12_isObject (va_wsS RX12 166 yX12_in wm_X12_in) := goodIn_w (List.forall_mem_append.mpr ⟨List.forall_mem_cons.mpr ⟨List.mem_cons_of_mem _ (List.mem_append_left _ (List.mem_of_getElem? (i := 1) rfl)), List.forall_mem_cons.mpr ⟨List.mem_cons_of_mem _ (List.mem_append_left _ (List.mem_of_getElem? (i := 2) rfl)), List.forall_mem_cons.mpr ⟨List.mem_cons_of_mem _ (List.mem_append_left _ (List.mem_of_getElem? (i := 3) rfl)), (fun _ h => absurd h List.not_mem_nil)⟩⟩⟩, List.forall_mem_cons.mpr ⟨List.mem_cons_of_mem _ (List.mem_append_left _ (List.mem_of_getElem? (i := 4) rfl)), (fun _ h => absurd h List.not_mem_nil)⟩⟩) (by decide +kernel)
set_option maxHeartbeats 4000000 in
set_option maxRecDepth 100000 in
theorem s_X12_isObject (l : Launch) (D : va_G) (sz : Nat) (o : Nat) (a : Nat → Nat) (t : Nat → ClassId) (i : Nat → Int32) (q : Int64) (c : Nat → Nat → Int32) (d : Nat → Nat → Int64) (w : Int32) (hI : mInv i c) : Met l yX12_isObject wm_X12_isObject ({ frames := 1, cells := 0, slots := 0, locals := 25 }) (va_Pc [.ref o, .int w] (pA D sz (mW o a t i q c d) (mT t))) (va_Qi (fun (r : Int32) (_ : Unit) => r = (if (0 ≤ w.toInt ∧ w.toInt ≤ (i 5).toInt - 1) then 1 else 0)) oA (ro sz)) 0 0 (ro sz) := by
  refine Met.ofW (cc := cX12_isObject) (maxL := 2) (ret := (some .boolean)) (by decide +kernel) rfl ?_
  intro p e s m args below meth cd s₁ B hml hv
  obtain ⟨rfl, hsz, hP, hK⟩ := hv
  have hx := B.exec
  have hb := B.bytes
  have hr := B.returns
  have hts := atoms_spec (ws := wm_X12_isObject) B.pre
  have hown : s.vm.findClass RX12 = some m.cls := findClass_of_methodNamed B.named
  have hlocks := B.notSynchronized
  subst hsz
  have hA : ∀ q : Nat, s.heap.size ≤ q → ro s.heap.size q := fun _ h => h
  have hS : va_S (ro s.heap.size) s.heap s.heap [] := va_S.rf
  have hl := lv_entry ([.ref o, .int w]) (n := 2) (Nat.le_of_ble_eq_true rfl)
  rw [lg_entry_eq]
  generalize (lg_sl ([.ref o, .int w]) ++ List.replicate (2 - (lg_sl ([.ref o, .int w])).length) Slot.unset).toArray = ls at hl ⊢
  have hl : lv_has ls 2 [(0, .ref o), (1, .int w)] := hl
  refine lv_iload_n hx hb dX12_isObject_0 rfl (lv_at hl 1 rfl) ?_
  refine lv_i2l (v := w.toInt64) hx hb dX12_isObject_1 rfl ?_
  refine lv_lconst (v := 0) hx hb dX12_isObject_2 (by decide +kernel) ?_
  refine lv_aload_n hx hb dX12_isObject_3 rfl (lv_at hl 0 rfl) ?_
  refine mget_5 (v := (i 5)) rfl hx hb hts (fun _ h => List.mem_cons_of_mem _ (List.mem_append_right _ h)) hown hK hP (hts (.fieldLink RX12 177 "TalePlayModel" "objects" "I") (List.mem_cons_of_mem _ (List.mem_append_left _ (List.mem_of_getElem? (i := 0) rfl)))) dX12_isObject_4 ?_
  have rb5_i : 0 ≤ (i 5).toInt ∧ (i 5).toInt ≤ 30 := hI.1 5
  refine lv_iconst (v := 1) hx hb dX12_isObject_7 (by decide +kernel) ?_
  refine lv_isub hx hb dX12_isObject_8 ?_
  refine lv_topi (fun x1 ex1 => ?_)
  have tx1 := ti_sub (a := (i 5).toInt) (b := 1) ex1 rfl (by decide +kernel) (by omega) (by omega)
  refine lv_i2l (v := x1.toInt64) hx hb dX12_isObject_9 rfl ?_
  have hPc := hP.sub (ws' := []) [] rfl
  have hKc := hK.sub (tys' := []) [] rfl
  refine ro_calli (va_runS (As := [.long w.toInt64, .long 0, .long x1.toInt64]) (rest := []) ⟨hx, hb, hml, hown, hts⟩ (c_X12_in l D s.heap.size w.toInt64 0 x1.toInt64 w.toInt 0 ((i 5).toInt - 1) ((Int32.toInt_toInt64 w).trans rfl) (by decide +kernel) ((Int32.toInt_toInt64 x1).trans tx1)) (va_cwS 3 hts gm_X12_isObject_X12_in rfl rfl rfl (by decide +kernel) ⟨Nat.le_of_ble_eq_true rfl, Nat.le_of_ble_eq_true rfl⟩) (pA_S hKc hPc) rfl rfl hl.1 rfl (lv_room (Nat.le_of_ble_eq_true rfl)) dX12_isObject_10 ⟨Nat.le_of_ble_eq_true rfl, Nat.le_of_ble_eq_true rfl⟩) hS hA hP (fun r2 u2 H locs hw2 hP hS => ?_)
  have hw2 : r2 = if (0 ≤ w.toInt ∧ w.toInt ≤ ((i 5).toInt - 1)) then 1 else 0 := hw2
  exact ro_zret hx hb hr hlocks hS (fl_n hw2) dX12_isObject_13 (by show _ = _; rw [hw2]; try ((repeat' split) <;> first | rfl | (exfalso; omega)))

def wm_X12_endTale : List Cond := .code yX12_endTale cX12_endTale 1 none :: (([.fieldLink RX12 155 "TalePlayModel" "player" "I", .fieldLink RX12 291 "TalePlayModel" "turns" "I"] : List Cond) ++ wsX120)
set_option maxHeartbeats 4000000 in
set_option maxRecDepth 100000 in
theorem s_X12_endTale (l : Launch) (D : va_G) (sz : Nat) (o : Nat) (a : Nat → Nat) (t : Nat → ClassId) (i : Nat → Int32) (q : Int64) (c : Nat → Nat → Int32) (d : Nat → Nat → Int64) (hI : mInv i c) : Met l yX12_endTale wm_X12_endTale ({ frames := 0, cells := 0, slots := 0, locals := 0 }) (va_Pc [.ref o] (pB D sz (mW o a t i q c d) (mT t))) (va_Qv (fun (u : MS) => True ∧ mInv u.1 u.2.2.1 ∧ (∀ k, k ∉ ([22, 27] : List Nat) → u.1 k = i k) ∧ (∀ k, k ∉ ([] : List Nat) → u.2.2.1 k = c k) ∧ ((u.1 22).toInt = -9) ∧ ((u.1 27).toInt = 0)) (oC D (va_A (mW o a t i q c d) sz) (fun u : MS => mW o a t u.1 u.2.1 u.2.2.1 u.2.2.2) (fun _ => [])) (va_A (mW o a t i q c d) sz)) 0 0 (va_A (mW o a t i q c d) sz) := by
  refine Met.ofW (cc := cX12_endTale) (maxL := 1) (ret := none) (by decide +kernel) rfl ?_
  intro p e s m args below meth cd s₁ B hml hv
  obtain ⟨rfl, hsz, hP, hK, hD0⟩ := hv
  have hx := B.exec
  have hb := B.bytes
  have hr := B.returns
  have hts := atoms_spec (ws := wm_X12_endTale) B.pre
  have hown : s.vm.findClass RX12 = some m.cls := findClass_of_methodNamed B.named
  have hlocks := B.notSynchronized
  subst hsz
  have hD := hD0.self (sz := s.heap.size)
  generalize hAe : va_A (mW o a t i q c d) s.heap.size = A at hD ⊢
  have hA : ∀ q : Nat, s.heap.size ≤ q → A q := fun q h => by rw [← hAe]; exact Or.inr h
  have hS : va_S A s.heap s.heap [] := va_S.rf
  have hfi : ∀ k, k ∉ ([] : List Nat) → i k = i k := fun _ _ => rfl
  have hfc : ∀ k, k ∉ ([] : List Nat) → c k = c k := fun _ _ => rfl
  have hl := lv_entry ([.ref o]) (n := 1) (Nat.le_of_ble_eq_true rfl)
  rw [lg_entry_eq]
  generalize (lg_sl ([.ref o]) ++ List.replicate (1 - (lg_sl ([.ref o])).length) Slot.unset).toArray = ls at hl ⊢
  have hl : lv_has ls 1 [(0, .ref o)] := hl
  refine lv_aload_n hx hb dX12_endTale_0 rfl (lv_at hl 0 rfl) ?_
  refine lv_bipush (v := (-9)) hx hb dX12_endTale_1 (by decide +kernel) ?_
  refine mput_22 hx hb hts (fun _ h => List.mem_cons_of_mem _ (List.mem_append_right _ h)) hown hK hP hD hS (hts (.fieldLink RX12 155 "TalePlayModel" "player" "I") (List.mem_cons_of_mem _ (List.mem_append_left _ (List.mem_of_getElem? (i := 0) rfl)))) rfl rfl dX12_endTale_3 (fun H locs hP hD hS => ?_)
  have hI := mInv_i hI (k := 22) (v := (-9)) (show ((-9) : Int32).toInt = -9 ∨ (0 ≤ ((-9) : Int32).toInt ∧ ((-9) : Int32).toInt ≤ 29) from by decide +kernel)
  have hfi : ∀ k, k ∉ ([22] : List Nat) → (upd i 22 (-9)) k = i k := fr_iz hfi (by decide +kernel) (by decide +kernel)
  refine lv_aload_n hx hb dX12_endTale_6 rfl (lv_at hl 0 rfl) ?_
  refine lv_iconst (v := 0) hx hb dX12_endTale_7 (by decide +kernel) ?_
  refine mput_27 hx hb hts (fun _ h => List.mem_cons_of_mem _ (List.mem_append_right _ h)) hown hK hP hD hS (hts (.fieldLink RX12 291 "TalePlayModel" "turns" "I") (List.mem_cons_of_mem _ (List.mem_append_left _ (List.mem_of_getElem? (i := 1) rfl)))) rfl rfl dX12_endTale_8 (fun H locs hP hD hS => ?_)
  have hI := mInv_i hI (k := 27) (v := 0) (show 0 ≤ (0 : Int32).toInt ∧ (0 : Int32).toInt ≤ 100 from by decide +kernel)
  have hfi : ∀ k, k ∉ ([22, 27] : List Nat) → (upd (upd i 22 (-9)) 27 0) k = i k := fr_iz hfi (by decide +kernel) (by decide +kernel)
  exact rw_vret ((upd (upd i 22 (-9)) 27 0), q, c, d) hx hb hr hlocks hS (hK.sub (tys' := []) [] rfl) hP hD dX12_endTale_11 ⟨trivial, hI, fr_w hfi (by decide +kernel), fr_w hfc (by decide +kernel), (show ((-9) : Int32).toInt = -9 from by decide +kernel), (show (0 : Int32).toInt = 0 from by decide +kernel)⟩

def wm_X12_meets : List Cond := .code yX12_meets cX12_meets 2 (some .int) :: (([.fieldLink RX12 161 "TalePlayModel" "latest" "I", .fieldLink RX12 7 "TalePlayModel" "came" "[I"] : List Cond) ++ wsX120)
set_option maxHeartbeats 4000000 in
set_option maxRecDepth 100000 in
theorem s_X12_meets (l : Launch) (D : va_G) (sz : Nat) (o : Nat) (a : Nat → Nat) (t : Nat → ClassId) (i : Nat → Int32) (q : Int64) (c : Nat → Nat → Int32) (d : Nat → Nat → Int64) (f : Int32) (hI : mInv i c) (hf : 1 ≤ f.toInt ∧ f.toInt ≤ 6) : Met l yX12_meets wm_X12_meets ({ frames := 0, cells := 0, slots := 0, locals := 0 }) (va_Pc [.ref o, .int f] (pB D sz (mW o a t i q c d) (mT t))) (va_Qi (fun (r : Int32) (u : MS) => r = (-3) ∧ mInv u.1 u.2.2.1 ∧ (∀ k, k ∉ ([0] : List Nat) → u.1 k = i k) ∧ (∀ k, k ∉ ([1] : List Nat) → u.2.2.1 k = c k)) (oC D (va_A (mW o a t i q c d) sz) (fun u : MS => mW o a t u.1 u.2.1 u.2.2.1 u.2.2.2) (fun _ => [])) (va_A (mW o a t i q c d) sz)) 0 0 (va_A (mW o a t i q c d) sz) := by
  refine Met.ofW (cc := cX12_meets) (maxL := 2) (ret := (some .int)) (by decide +kernel) rfl ?_
  intro p e s m args below meth cd s₁ B hml hv
  obtain ⟨rfl, hsz, hP, hK, hD0⟩ := hv
  have hx := B.exec
  have hb := B.bytes
  have hr := B.returns
  have hts := atoms_spec (ws := wm_X12_meets) B.pre
  have hown : s.vm.findClass RX12 = some m.cls := findClass_of_methodNamed B.named
  have hlocks := B.notSynchronized
  subst hsz
  have hD := hD0.self (sz := s.heap.size)
  generalize hAe : va_A (mW o a t i q c d) s.heap.size = A at hD ⊢
  have hA : ∀ q : Nat, s.heap.size ≤ q → A q := fun q h => by rw [← hAe]; exact Or.inr h
  have hS : va_S A s.heap s.heap [] := va_S.rf
  have hfi : ∀ k, k ∉ ([] : List Nat) → i k = i k := fun _ _ => rfl
  have hfc : ∀ k, k ∉ ([] : List Nat) → c k = c k := fun _ _ => rfl
  have hl := lv_entry ([.ref o, .int f]) (n := 2) (Nat.le_of_ble_eq_true rfl)
  rw [lg_entry_eq]
  generalize (lg_sl ([.ref o, .int f]) ++ List.replicate (2 - (lg_sl ([.ref o, .int f])).length) Slot.unset).toArray = ls at hl ⊢
  have hl : lv_has ls 2 [(0, .ref o), (1, .int f)] := hl
  refine lv_aload_n hx hb dX12_meets_0 rfl (lv_at hl 0 rfl) ?_
  refine lv_iload_n hx hb dX12_meets_1 rfl (lv_at hl 1 rfl) ?_
  refine mput_0 hx hb hts (fun _ h => List.mem_cons_of_mem _ (List.mem_append_right _ h)) hown hK hP hD hS (hts (.fieldLink RX12 161 "TalePlayModel" "latest" "I") (List.mem_cons_of_mem _ (List.mem_append_left _ (List.mem_of_getElem? (i := 0) rfl)))) rfl rfl dX12_meets_2 (fun H locs hP hD hS => ?_)
  have hI := mInv_i hI (k := 0) (v := f) (show 0 ≤ (f : Int32).toInt ∧ (f : Int32).toInt ≤ 6 from by omega)
  have hfi : ∀ k, k ∉ ([0] : List Nat) → (upd i 0 f) k = i k := fr_iz hfi (by decide +kernel) (by decide +kernel)
  refine lv_aload_n hx hb dX12_meets_5 rfl (lv_at hl 0 rfl) ?_
  refine mget_1 hx hb hts (fun _ h => List.mem_cons_of_mem _ (List.mem_append_right _ h)) hown hK hP (hts (.fieldLink RX12 7 "TalePlayModel" "came" "[I") (List.mem_cons_of_mem _ (List.mem_append_left _ (List.mem_of_getElem? (i := 1) rfl)))) dX12_meets_6 ?_
  refine lv_iload_n hx hb dX12_meets_9 rfl (lv_at hl 1 rfl) ?_
  refine lv_dup2_11 hx hb dX12_meets_10 rfl rfl ?_
  refine mld_1 hx hb hK hP (vp_in_iff.mpr (by have h9 : f.toInt = f.toInt := rfl; omega)) dX12_meets_11 (fun x1 ex1 => ?_)
  refine lv_iconst (v := 1) hx hb dX12_meets_12 (by decide +kernel) ?_
  refine lv_iadd hx hb dX12_meets_13 ?_
  refine lv_topi (fun x2 ex2 => ?_)
  refine mst_1 hx hb hK hP hD hS (vp_in_iff.mpr (by have h9 : f.toInt = f.toInt := rfl; omega)) dX12_meets_14 (fun H locs hP hD hS => ?_)
  have hI := mInv_c hI (k := 1) (j := (f : Int32).toNatClampNeg) (x := x2) (show True from trivial)
  have hfc : ∀ k, k ∉ ([1] : List Nat) → (updA c 1 (f : Int32).toNatClampNeg x2) k = c k := fr_cz hfc (by decide +kernel) (by decide +kernel)
  refine lv_bipush (v := (-3)) hx hb dX12_meets_15 (by decide +kernel) ?_
  exact rw_iret ((upd i 0 f), q, (updA c 1 (f : Int32).toNatClampNeg x2), d) hx hb hr hlocks hS (hK.sub (tys' := []) [] rfl) hP hD dX12_meets_17 ⟨rfl, hI, fr_w hfi (by decide +kernel), fr_w hfc (by decide +kernel)⟩

def wm_X12_saidMany : List Cond := .code yX12_saidMany cX12_saidMany 3 (some .int) :: (([.fieldLink RX12 202 "TalePlayModel" "sentences" "I", .fieldLink RX12 37 "TalePlayModel" "isSaid" "[Z"] : List Cond) ++ wsX120)
set_option maxHeartbeats 4000000 in
set_option maxRecDepth 100000 in
theorem s_X12_saidMany (l : Launch) (D : va_G) (sz : Nat) (o : Nat) (a : Nat → Nat) (t : Nat → ClassId) (i : Nat → Int32) (q : Int64) (c : Nat → Nat → Int32) (d : Nat → Nat → Int64) (hI : mInv i c) : Met l yX12_saidMany wm_X12_saidMany ({ frames := 0, cells := 0, slots := 0, locals := 0 }) (va_Pc [.ref o] (pA D sz (mW o a t i q c d) (mT t))) (va_Qi (fun (r : Int32) (_ : Unit) => (0 ≤ r.toInt ∧ r.toInt ≤ 200)) oA (ro sz)) 0 0 (ro sz) := by
  refine Met.ofW (cc := cX12_saidMany) (maxL := 3) (ret := (some .int)) (by decide +kernel) rfl ?_
  intro p e s m args below meth cd s₁ B hml hv
  obtain ⟨rfl, hsz, hP, hK⟩ := hv
  have hx := B.exec
  have hb := B.bytes
  have hr := B.returns
  have hts := atoms_spec (ws := wm_X12_saidMany) B.pre
  have hown : s.vm.findClass RX12 = some m.cls := findClass_of_methodNamed B.named
  have hlocks := B.notSynchronized
  subst hsz
  have hA : ∀ q : Nat, s.heap.size ≤ q → ro s.heap.size q := fun _ h => h
  have hS : va_S (ro s.heap.size) s.heap s.heap [] := va_S.rf
  have hl := lv_entry ([.ref o]) (n := 3) (Nat.le_of_ble_eq_true rfl)
  rw [lg_entry_eq]
  generalize (lg_sl ([.ref o]) ++ List.replicate (3 - (lg_sl ([.ref o])).length) Slot.unset).toArray = ls at hl ⊢
  have hl : lv_has ls 3 [(0, .ref o)] := hl
  refine lv_iconst (v := 0) hx hb dX12_saidMany_0 (by decide +kernel) ?_
  refine lv_istore_n (lv' := [(1, .int 0), (0, .ref o)]) hx hb dX12_saidMany_1 rfl hl (by decide +kernel) rfl (fun ls hl => ?_)
  refine lv_iconst (v := 0) hx hb dX12_saidMany_2 (by decide +kernel) ?_
  refine lv_istore_n (lv' := [(2, .int 0), (1, .int 0), (0, .ref o)]) hx hb dX12_saidMany_3 rfl hl (by decide +kernel) rfl (fun ls hl => ?_)
  have lp1 : ∀ (fu : Nat) (y1_2 : Int32) (y1_1 : Int32), (0 ≤ y1_2.toInt ∧ y1_2.toInt ≤ 200) → (0 ≤ y1_1.toInt ∧ y1_1.toInt ≤ y1_2.toInt) → (200 - y1_2.toInt).toNat < fu → ∀ (H : Heap) (locs : List Loc) (ls : Array Slot), va_P D vwCl (mW o a t i q c d) H → va_S (ro s.heap.size) s.heap H locs → lv_has ls 3 [(2, .int y1_2), (1, .int y1_1), (0, .ref o)] → W p l e (headSpec wm_X12_saidMany ({ frames := 0, cells := 0, slots := 0, locals := 0 })).room s m ([.ref o] : List Value).toArray below meth cd H locs 0 0 (MQ below (va_Qi (fun (r : Int32) (_ : Unit) => (0 ≤ r.toInt ∧ r.toInt ≤ 200)) oA (ro s.heap.size)) ([.ref o] : List Value).toArray s 0 0 (ro s.heap.size)) (F0 m 4 ls []) := by
    intro fu
    induction fu with
    | zero => intro y1_2 y1_1 hy1_2 hy1_1 hm; exact absurd hm (Nat.not_lt_zero _)
    | succ fu ih =>
      intro y1_2 y1_1 hy1_2 hy1_1 hm H locs ls hP hS hl
      have ih1 := ih
      refine lv_iload_n hx hb dX12_saidMany_4 rfl (lv_at hl 0 rfl) ?_
      refine lv_aload_n hx hb dX12_saidMany_5 rfl (lv_at hl 2 rfl) ?_
      refine mget_8 (v := (i 8)) rfl hx hb hts (fun _ h => List.mem_cons_of_mem _ (List.mem_append_right _ h)) hown hK hP (hts (.fieldLink RX12 202 "TalePlayModel" "sentences" "I") (List.mem_cons_of_mem _ (List.mem_append_left _ (List.mem_of_getElem? (i := 0) rfl)))) dX12_saidMany_6 ?_
      have rb8_i : 0 ≤ (i 8).toInt ∧ (i 8).toInt ≤ 200 := hI.1 8
      refine lv_icmp_ge (tgt := 35) hx hb dX12_saidMany_9 (by decide +kernel) (fun c2 => ?_) (fun c2 => ?_)
      · have f2 := (ti_le (a := (i 8).toInt) (b := y1_2.toInt) rfl rfl).mp c2
        refine lv_iload_n hx hb dX12_saidMany_35 rfl (lv_at hl 1 rfl) ?_
        exact ro_iret hx hb hr hlocks hS dX12_saidMany_36 (show 0 ≤ y1_1.toInt ∧ y1_1.toInt ≤ 200 from by omega)
      · have f2 := mt (ti_le (a := (i 8).toInt) (b := y1_2.toInt) rfl rfl).mpr c2
        refine lv_iload_n hx hb dX12_saidMany_12 rfl (lv_at hl 1 rfl) ?_
        refine lv_aload_n hx hb dX12_saidMany_13 rfl (lv_at hl 2 rfl) ?_
        refine mget_13 hx hb hts (fun _ h => List.mem_cons_of_mem _ (List.mem_append_right _ h)) hown hK hP (hts (.fieldLink RX12 37 "TalePlayModel" "isSaid" "[Z") (List.mem_cons_of_mem _ (List.mem_append_left _ (List.mem_of_getElem? (i := 1) rfl)))) dX12_saidMany_14 ?_
        refine lv_iload_n hx hb dX12_saidMany_17 rfl (lv_at hl 0 rfl) ?_
        refine mld_13 hx hb hK hP (vp_in_iff.mpr (by have h9 : y1_2.toInt = y1_2.toInt := rfl; omega)) dX12_saidMany_18 (fun x3 ex3 => ?_)
        have rx3 : 0 ≤ x3.toInt ∧ x3.toInt ≤ 1 := by rw [ex3]; exact hI.2 13 _
        have jn4 : ∀ (z4_0 : Int32), (z4_0.toInt = 0 ∨ z4_0.toInt = 1) → ∀ (H : Heap) (locs : List Loc) (ls : Array Slot), va_P D vwCl (mW o a t i q c d) H → va_S (ro s.heap.size) s.heap H locs → lv_has ls 3 [(2, .int y1_2), (1, .int y1_1), (0, .ref o)] → W p l e (headSpec wm_X12_saidMany ({ frames := 0, cells := 0, slots := 0, locals := 0 })).room s m ([.ref o] : List Value).toArray below meth cd H locs 0 0 (MQ below (va_Qi (fun (r : Int32) (_ : Unit) => (0 ≤ r.toInt ∧ r.toInt ≤ 200)) oA (ro s.heap.size)) ([.ref o] : List Value).toArray s 0 0 (ro s.heap.size)) (F0 m 27 ls [.int z4_0, .int y1_1]) := by
          intro z4_0 hs4_0 H locs ls hP hS hl
          refine lv_iadd hx hb dX12_saidMany_27 ?_
          refine lv_topi (fun x5 ex5 => ?_)
          have tx5 := ti_add (a := y1_1.toInt) (b := z4_0.toInt) ex5 rfl rfl (by omega) (by omega)
          refine lv_istore_n (lv' := [(1, .int x5), (2, .int y1_2), (0, .ref o)]) hx hb dX12_saidMany_28 rfl hl (by decide +kernel) rfl (fun ls hl => ?_)
          obtain ⟨x6, ex6⟩ : ∃ y : Int32, y = y1_2 + 1 := ⟨_, rfl⟩
          have tx6 := ti_add (a := y1_2.toInt) (b := 1) ex6 rfl (by decide +kernel) (by omega) (by omega)
          refine lv_iinc (v := x6) (lv' := [(2, .int x6), (1, .int x5), (0, .ref o)]) hx hb dX12_saidMany_29 hl (k := 1) rfl (by rw [ex6]; rfl) (by decide +kernel) rfl (fun ls hl => ?_)
          refine lv_goto (tgt := 4) hx hb dX12_saidMany_32 (by decide +kernel) ?_
          exact ih1 x6 x5 (show 0 ≤ x6.toInt ∧ x6.toInt ≤ 200 from by have h50 : x6.toInt = (y1_2.toInt + 1) := tx6; have h51 : x5.toInt = (y1_1.toInt + z4_0.toInt) := tx5; omega) (show 0 ≤ x5.toInt ∧ x5.toInt ≤ x6.toInt from by have h50 : x6.toInt = (y1_2.toInt + 1) := tx6; have h51 : x5.toInt = (y1_1.toInt + z4_0.toInt) := tx5; omega) (by have h50 : x6.toInt = (y1_2.toInt + 1) := tx6; have h51 : x5.toInt = (y1_1.toInt + z4_0.toInt) := tx5; omega) _ _ _ hP hS (lv_sub hl [0, 1, 2] rfl)
        refine lv_if_eq (tgt := 26) hx hb dX12_saidMany_19 (by decide +kernel) (fun c7 => ?_) (fun c7 => ?_)
        · have f7 := (ti_eq (a := x3.toInt) (b := 0) rfl (by decide +kernel)).mp c7
          refine lv_iconst (v := 0) hx hb dX12_saidMany_26 (by decide +kernel) ?_
          exact jn4  (0 : Int32) (show (0 : Int32).toInt = 0 ∨ (0 : Int32).toInt = 1 from by decide +kernel) _ _ _ hP hS (lv_sub hl [0, 1, 2] rfl)
        · have f7 := mt (ti_eq (a := x3.toInt) (b := 0) rfl (by decide +kernel)).mpr c7
          refine lv_iconst (v := 1) hx hb dX12_saidMany_22 (by decide +kernel) ?_
          refine lv_goto (tgt := 27) hx hb dX12_saidMany_23 (by decide +kernel) ?_
          exact jn4  (1 : Int32) (show (1 : Int32).toInt = 0 ∨ (1 : Int32).toInt = 1 from by decide +kernel) _ _ _ hP hS (lv_sub hl [0, 1, 2] rfl)
  exact lp1 _ (0 : Int32) (0 : Int32) (show 0 ≤ (0 : Int32).toInt ∧ (0 : Int32).toInt ≤ 200 from by decide +kernel) (show 0 ≤ (0 : Int32).toInt ∧ (0 : Int32).toInt ≤ (0 : Int32).toInt from by decide +kernel) (Nat.lt_succ_self _) _ _ _ hP hS (lv_sub hl [0, 1, 2] rfl)

def wm_X12_saidSo : List Cond := .code yX12_saidSo cX12_saidSo 6 (some .int) :: (([.fieldLink RX12 202 "TalePlayModel" "sentences" "I", .fieldLink RX12 37 "TalePlayModel" "isSaid" "[Z", .fieldLink RX12 25 "TalePlayModel" "form" "[I", .fieldLink RX12 28 "TalePlayModel" "left" "[I", .fieldLink RX12 31 "TalePlayModel" "middle" "[I", .fieldLink RX12 34 "TalePlayModel" "right" "[I"] : List Cond) ++ wsX120)
set_option maxHeartbeats 4000000 in
set_option maxRecDepth 100000 in
theorem s_X12_saidSo (l : Launch) (D : va_G) (sz : Nat) (o : Nat) (a : Nat → Nat) (t : Nat → ClassId) (i : Nat → Int32) (q : Int64) (c : Nat → Nat → Int32) (d : Nat → Nat → Int64) (f : Int32) (w1 : Int32) (w2 : Int32) (w3 : Int32) (hI : mInv i c) : Met l yX12_saidSo wm_X12_saidSo ({ frames := 0, cells := 0, slots := 0, locals := 0 }) (va_Pc [.ref o, .int f, .int w1, .int w2, .int w3] (pA D sz (mW o a t i q c d) (mT t))) (va_Qi (fun (r : Int32) (_ : Unit) => (r.toInt = -9 ∨ (0 ≤ r.toInt ∧ r.toInt ≤ 199))) oA (ro sz)) 0 0 (ro sz) := by
  refine Met.ofW (cc := cX12_saidSo) (maxL := 6) (ret := (some .int)) (by decide +kernel) rfl ?_
  intro p e s m args below meth cd s₁ B hml hv
  obtain ⟨rfl, hsz, hP, hK⟩ := hv
  have hx := B.exec
  have hb := B.bytes
  have hr := B.returns
  have hts := atoms_spec (ws := wm_X12_saidSo) B.pre
  have hown : s.vm.findClass RX12 = some m.cls := findClass_of_methodNamed B.named
  have hlocks := B.notSynchronized
  subst hsz
  have hA : ∀ q : Nat, s.heap.size ≤ q → ro s.heap.size q := fun _ h => h
  have hS : va_S (ro s.heap.size) s.heap s.heap [] := va_S.rf
  have hl := lv_entry ([.ref o, .int f, .int w1, .int w2, .int w3]) (n := 6) (Nat.le_of_ble_eq_true rfl)
  rw [lg_entry_eq]
  generalize (lg_sl ([.ref o, .int f, .int w1, .int w2, .int w3]) ++ List.replicate (6 - (lg_sl ([.ref o, .int f, .int w1, .int w2, .int w3])).length) Slot.unset).toArray = ls at hl ⊢
  have hl : lv_has ls 6 [(0, .ref o), (1, .int f), (2, .int w1), (3, .int w2), (4, .int w3)] := hl
  refine lv_iconst (v := 0) hx hb dX12_saidSo_0 (by decide +kernel) ?_
  refine lv_istore (lv' := [(5, .int 0), (0, .ref o), (1, .int f), (2, .int w1), (3, .int w2), (4, .int w3)]) hx hb dX12_saidSo_1 hl (by decide +kernel) rfl (fun ls hl => ?_)
  have lp1 : ∀ (fu : Nat) (y1_5 : Int32), (0 ≤ y1_5.toInt ∧ y1_5.toInt ≤ 200) → (200 - y1_5.toInt).toNat < fu → ∀ (H : Heap) (locs : List Loc) (ls : Array Slot), va_P D vwCl (mW o a t i q c d) H → va_S (ro s.heap.size) s.heap H locs → lv_has ls 6 [(5, .int y1_5), (0, .ref o), (1, .int f), (2, .int w1), (3, .int w2), (4, .int w3)] → W p l e (headSpec wm_X12_saidSo ({ frames := 0, cells := 0, slots := 0, locals := 0 })).room s m ([.ref o, .int f, .int w1, .int w2, .int w3] : List Value).toArray below meth cd H locs 0 0 (MQ below (va_Qi (fun (r : Int32) (_ : Unit) => (r.toInt = -9 ∨ (0 ≤ r.toInt ∧ r.toInt ≤ 199))) oA (ro s.heap.size)) ([.ref o, .int f, .int w1, .int w2, .int w3] : List Value).toArray s 0 0 (ro s.heap.size)) (F0 m 3 ls []) := by
    intro fu
    induction fu with
    | zero => intro y1_5 hy1_5 hm; exact absurd hm (Nat.not_lt_zero _)
    | succ fu ih =>
      intro y1_5 hy1_5 hm H locs ls hP hS hl
      have ih1 := ih
      refine lv_iload hx hb dX12_saidSo_3 (lv_at hl 0 rfl) ?_
      refine lv_aload_n hx hb dX12_saidSo_5 rfl (lv_at hl 1 rfl) ?_
      refine mget_8 (v := (i 8)) rfl hx hb hts (fun _ h => List.mem_cons_of_mem _ (List.mem_append_right _ h)) hown hK hP (hts (.fieldLink RX12 202 "TalePlayModel" "sentences" "I") (List.mem_cons_of_mem _ (List.mem_append_left _ (List.mem_of_getElem? (i := 0) rfl)))) dX12_saidSo_6 ?_
      have rb8_i : 0 ≤ (i 8).toInt ∧ (i 8).toInt ≤ 200 := hI.1 8
      refine lv_icmp_ge (tgt := 76) hx hb dX12_saidSo_9 (by decide +kernel) (fun c2 => ?_) (fun c2 => ?_)
      · have f2 := (ti_le (a := (i 8).toInt) (b := y1_5.toInt) rfl rfl).mp c2
        refine lv_bipush (v := (-9)) hx hb dX12_saidSo_76 (by decide +kernel) ?_
        exact ro_iret hx hb hr hlocks hS dX12_saidSo_78 (show ((-9) : Int32).toInt = -9 ∨ (0 ≤ ((-9) : Int32).toInt ∧ ((-9) : Int32).toInt ≤ 199) from by decide +kernel)
      · have f2 := mt (ti_le (a := (i 8).toInt) (b := y1_5.toInt) rfl rfl).mpr c2
        refine lv_aload_n hx hb dX12_saidSo_12 rfl (lv_at hl 1 rfl) ?_
        refine mget_13 hx hb hts (fun _ h => List.mem_cons_of_mem _ (List.mem_append_right _ h)) hown hK hP (hts (.fieldLink RX12 37 "TalePlayModel" "isSaid" "[Z") (List.mem_cons_of_mem _ (List.mem_append_left _ (List.mem_of_getElem? (i := 1) rfl)))) dX12_saidSo_13 ?_
        refine lv_iload hx hb dX12_saidSo_16 (lv_at hl 0 rfl) ?_
        refine mld_13 hx hb hK hP (vp_in_iff.mpr (by have h9 : y1_5.toInt = y1_5.toInt := rfl; omega)) dX12_saidSo_18 (fun x3 ex3 => ?_)
        have rx3 : 0 ≤ x3.toInt ∧ x3.toInt ≤ 1 := by rw [ex3]; exact hI.2 13 _
        have jn4 : ∀ (H : Heap) (locs : List Loc) (ls : Array Slot), va_P D vwCl (mW o a t i q c d) H → va_S (ro s.heap.size) s.heap H locs → lv_has ls 6 [(5, .int y1_5), (0, .ref o), (1, .int f), (2, .int w1), (3, .int w2), (4, .int w3)] → W p l e (headSpec wm_X12_saidSo ({ frames := 0, cells := 0, slots := 0, locals := 0 })).room s m ([.ref o, .int f, .int w1, .int w2, .int w3] : List Value).toArray below meth cd H locs 0 0 (MQ below (va_Qi (fun (r : Int32) (_ : Unit) => (r.toInt = -9 ∨ (0 ≤ r.toInt ∧ r.toInt ≤ 199))) oA (ro s.heap.size)) ([.ref o, .int f, .int w1, .int w2, .int w3] : List Value).toArray s 0 0 (ro s.heap.size)) (F0 m 70 ls []) := by
          intro H locs ls hP hS hl
          obtain ⟨x5, ex5⟩ : ∃ y : Int32, y = y1_5 + 1 := ⟨_, rfl⟩
          have tx5 := ti_add (a := y1_5.toInt) (b := 1) ex5 rfl (by decide +kernel) (by omega) (by omega)
          refine lv_iinc (v := x5) (lv' := [(5, .int x5), (0, .ref o), (1, .int f), (2, .int w1), (3, .int w2), (4, .int w3)]) hx hb dX12_saidSo_70 hl (k := 0) rfl (by rw [ex5]; rfl) (by decide +kernel) rfl (fun ls hl => ?_)
          refine lv_goto (tgt := 3) hx hb dX12_saidSo_73 (by decide +kernel) ?_
          exact ih1 x5 (show 0 ≤ x5.toInt ∧ x5.toInt ≤ 200 from by have h50 : x5.toInt = (y1_5.toInt + 1) := tx5; omega) (by have h50 : x5.toInt = (y1_5.toInt + 1) := tx5; omega) _ _ _ hP hS (lv_sub hl [0, 1, 2, 3, 4, 5] rfl)
        refine lv_if_eq (tgt := 70) hx hb dX12_saidSo_19 (by decide +kernel) (fun c6 => ?_) (fun c6 => ?_)
        · have f6 := (ti_eq (a := x3.toInt) (b := 0) rfl (by decide +kernel)).mp c6
          exact jn4    _ _ _ hP hS (lv_sub hl [0, 1, 2, 3, 4, 5] rfl)
        · have f6 := mt (ti_eq (a := x3.toInt) (b := 0) rfl (by decide +kernel)).mpr c6
          refine lv_aload_n hx hb dX12_saidSo_22 rfl (lv_at hl 1 rfl) ?_
          refine mget_9 hx hb hts (fun _ h => List.mem_cons_of_mem _ (List.mem_append_right _ h)) hown hK hP (hts (.fieldLink RX12 25 "TalePlayModel" "form" "[I") (List.mem_cons_of_mem _ (List.mem_append_left _ (List.mem_of_getElem? (i := 2) rfl)))) dX12_saidSo_23 ?_
          refine lv_iload hx hb dX12_saidSo_26 (lv_at hl 0 rfl) ?_
          refine mld_9 hx hb hK hP (vp_in_iff.mpr (by have h9 : y1_5.toInt = y1_5.toInt := rfl; omega)) dX12_saidSo_28 (fun x7 ex7 => ?_)
          have rx7 : 0 ≤ x7.toInt ∧ x7.toInt ≤ 7 := by rw [ex7]; exact hI.2 9 _
          refine lv_iload_n hx hb dX12_saidSo_29 rfl (lv_at hl 2 rfl) ?_
          refine lv_icmp_ne (tgt := 70) hx hb dX12_saidSo_30 (by decide +kernel) (fun c8 => ?_) (fun c8 => ?_)
          · have f8 := mt (ti_eq (a := x7.toInt) (b := f.toInt) rfl rfl).mpr c8
            exact jn4    _ _ _ hP hS (lv_sub hl [0, 1, 2, 3, 4, 5] rfl)
          · have f8 := (ti_eq (a := x7.toInt) (b := f.toInt) rfl rfl).mp c8
            refine lv_aload_n hx hb dX12_saidSo_33 rfl (lv_at hl 1 rfl) ?_
            refine mget_10 hx hb hts (fun _ h => List.mem_cons_of_mem _ (List.mem_append_right _ h)) hown hK hP (hts (.fieldLink RX12 28 "TalePlayModel" "left" "[I") (List.mem_cons_of_mem _ (List.mem_append_left _ (List.mem_of_getElem? (i := 3) rfl)))) dX12_saidSo_34 ?_
            refine lv_iload hx hb dX12_saidSo_37 (lv_at hl 0 rfl) ?_
            refine mld_10 hx hb hK hP (vp_in_iff.mpr (by have h9 : y1_5.toInt = y1_5.toInt := rfl; omega)) dX12_saidSo_39 (fun x9 ex9 => ?_)
            have rx9 : 0 ≤ x9.toInt ∧ x9.toInt ≤ 29 := by rw [ex9]; exact hI.2 10 _
            refine lv_iload_n hx hb dX12_saidSo_40 rfl (lv_at hl 3 rfl) ?_
            refine lv_icmp_ne (tgt := 70) hx hb dX12_saidSo_41 (by decide +kernel) (fun c10 => ?_) (fun c10 => ?_)
            · have f10 := mt (ti_eq (a := x9.toInt) (b := w1.toInt) rfl rfl).mpr c10
              exact jn4    _ _ _ hP hS (lv_sub hl [0, 1, 2, 3, 4, 5] rfl)
            · have f10 := (ti_eq (a := x9.toInt) (b := w1.toInt) rfl rfl).mp c10
              refine lv_aload_n hx hb dX12_saidSo_44 rfl (lv_at hl 1 rfl) ?_
              refine mget_11 hx hb hts (fun _ h => List.mem_cons_of_mem _ (List.mem_append_right _ h)) hown hK hP (hts (.fieldLink RX12 31 "TalePlayModel" "middle" "[I") (List.mem_cons_of_mem _ (List.mem_append_left _ (List.mem_of_getElem? (i := 4) rfl)))) dX12_saidSo_45 ?_
              refine lv_iload hx hb dX12_saidSo_48 (lv_at hl 0 rfl) ?_
              refine mld_11 hx hb hK hP (vp_in_iff.mpr (by have h9 : y1_5.toInt = y1_5.toInt := rfl; omega)) dX12_saidSo_50 (fun x11 ex11 => ?_)
              have rx11 : 0 ≤ x11.toInt ∧ x11.toInt ≤ 29 := by rw [ex11]; exact hI.2 11 _
              refine lv_iload_n hx hb dX12_saidSo_51 rfl (lv_at hl 4 rfl) ?_
              refine lv_icmp_ne (tgt := 70) hx hb dX12_saidSo_52 (by decide +kernel) (fun c12 => ?_) (fun c12 => ?_)
              · have f12 := mt (ti_eq (a := x11.toInt) (b := w2.toInt) rfl rfl).mpr c12
                exact jn4    _ _ _ hP hS (lv_sub hl [0, 1, 2, 3, 4, 5] rfl)
              · have f12 := (ti_eq (a := x11.toInt) (b := w2.toInt) rfl rfl).mp c12
                refine lv_aload_n hx hb dX12_saidSo_55 rfl (lv_at hl 1 rfl) ?_
                refine mget_12 hx hb hts (fun _ h => List.mem_cons_of_mem _ (List.mem_append_right _ h)) hown hK hP (hts (.fieldLink RX12 34 "TalePlayModel" "right" "[I") (List.mem_cons_of_mem _ (List.mem_append_left _ (List.mem_of_getElem? (i := 5) rfl)))) dX12_saidSo_56 ?_
                refine lv_iload hx hb dX12_saidSo_59 (lv_at hl 0 rfl) ?_
                refine mld_12 hx hb hK hP (vp_in_iff.mpr (by have h9 : y1_5.toInt = y1_5.toInt := rfl; omega)) dX12_saidSo_61 (fun x13 ex13 => ?_)
                have rx13 : 0 ≤ x13.toInt ∧ x13.toInt ≤ 9 := by rw [ex13]; exact hI.2 12 _
                refine lv_iload hx hb dX12_saidSo_62 (lv_at hl 5 rfl) ?_
                refine lv_icmp_ne (tgt := 70) hx hb dX12_saidSo_64 (by decide +kernel) (fun c14 => ?_) (fun c14 => ?_)
                · have f14 := mt (ti_eq (a := x13.toInt) (b := w3.toInt) rfl rfl).mpr c14
                  exact jn4    _ _ _ hP hS (lv_sub hl [0, 1, 2, 3, 4, 5] rfl)
                · have f14 := (ti_eq (a := x13.toInt) (b := w3.toInt) rfl rfl).mp c14
                  refine lv_iload hx hb dX12_saidSo_67 (lv_at hl 0 rfl) ?_
                  exact ro_iret hx hb hr hlocks hS dX12_saidSo_69 (show y1_5.toInt = -9 ∨ (0 ≤ y1_5.toInt ∧ y1_5.toInt ≤ 199) from by omega)
  exact lp1 _ (0 : Int32) (show 0 ≤ (0 : Int32).toInt ∧ (0 : Int32).toInt ≤ 200 from by decide +kernel) (Nat.lt_succ_self _) _ _ _ hP hS (lv_sub hl [0, 1, 2, 3, 4, 5] rfl)

def wm_X12_placing : List Cond := .code yX12_placing cX12_placing 3 (some .int) :: (([.fieldLink RX12 202 "TalePlayModel" "sentences" "I", .fieldLink RX12 37 "TalePlayModel" "isSaid" "[Z", .fieldLink RX12 25 "TalePlayModel" "form" "[I", .fieldLink RX12 28 "TalePlayModel" "left" "[I"] : List Cond) ++ wsX120)
set_option maxHeartbeats 4000000 in
set_option maxRecDepth 100000 in
theorem s_X12_placing (l : Launch) (D : va_G) (sz : Nat) (o : Nat) (a : Nat → Nat) (t : Nat → ClassId) (i : Nat → Int32) (q : Int64) (c : Nat → Nat → Int32) (d : Nat → Nat → Int64) (w : Int32) (hI : mInv i c) : Met l yX12_placing wm_X12_placing ({ frames := 0, cells := 0, slots := 0, locals := 0 }) (va_Pc [.ref o, .int w] (pA D sz (mW o a t i q c d) (mT t))) (va_Qi (fun (r : Int32) (_ : Unit) => ((r.toInt = -9 ∨ (0 ≤ r.toInt ∧ r.toInt ≤ 199)) ∧ (r.toInt = pL (c 9) (c 10) (c 13) (i 8).toInt w.toInt))) oA (ro sz)) 0 0 (ro sz) := by
  refine Met.ofW (cc := cX12_placing) (maxL := 3) (ret := (some .int)) (by decide +kernel) rfl ?_
  intro p e s m args below meth cd s₁ B hml hv
  obtain ⟨rfl, hsz, hP, hK⟩ := hv
  have hx := B.exec
  have hb := B.bytes
  have hr := B.returns
  have hts := atoms_spec (ws := wm_X12_placing) B.pre
  have hown : s.vm.findClass RX12 = some m.cls := findClass_of_methodNamed B.named
  have hlocks := B.notSynchronized
  subst hsz
  have hA : ∀ q : Nat, s.heap.size ≤ q → ro s.heap.size q := fun _ h => h
  have hS : va_S (ro s.heap.size) s.heap s.heap [] := va_S.rf
  have hl := lv_entry ([.ref o, .int w]) (n := 3) (Nat.le_of_ble_eq_true rfl)
  rw [lg_entry_eq]
  generalize (lg_sl ([.ref o, .int w]) ++ List.replicate (3 - (lg_sl ([.ref o, .int w])).length) Slot.unset).toArray = ls at hl ⊢
  have hl : lv_has ls 3 [(0, .ref o), (1, .int w)] := hl
  refine lv_iconst (v := 0) hx hb dX12_placing_0 (by decide +kernel) ?_
  refine lv_istore_n (lv' := [(2, .int 0), (0, .ref o), (1, .int w)]) hx hb dX12_placing_1 rfl hl (by decide +kernel) rfl (fun ls hl => ?_)
  have lp1 : ∀ (fu : Nat) (y1_2 : Int32), (0 ≤ y1_2.toInt ∧ y1_2.toInt ≤ 200) → (∀ s : Nat, (s : Int) < y1_2.toInt → ¬ mP (c 9) (c 10) (c 13) w.toInt s) → (200 - y1_2.toInt).toNat < fu → ∀ (H : Heap) (locs : List Loc) (ls : Array Slot), va_P D vwCl (mW o a t i q c d) H → va_S (ro s.heap.size) s.heap H locs → lv_has ls 3 [(2, .int y1_2), (0, .ref o), (1, .int w)] → W p l e (headSpec wm_X12_placing ({ frames := 0, cells := 0, slots := 0, locals := 0 })).room s m ([.ref o, .int w] : List Value).toArray below meth cd H locs 0 0 (MQ below (va_Qi (fun (r : Int32) (_ : Unit) => ((r.toInt = -9 ∨ (0 ≤ r.toInt ∧ r.toInt ≤ 199)) ∧ (r.toInt = pL (c 9) (c 10) (c 13) (i 8).toInt w.toInt))) oA (ro s.heap.size)) ([.ref o, .int w] : List Value).toArray s 0 0 (ro s.heap.size)) (F0 m 2 ls []) := by
    intro fu
    induction fu with
    | zero => intro y1_2 hy1_2 hz1_0 hm; exact absurd hm (Nat.not_lt_zero _)
    | succ fu ih =>
      intro y1_2 hy1_2 hz1_0 hm H locs ls hP hS hl
      have ih1 := ih
      refine lv_iload_n hx hb dX12_placing_2 rfl (lv_at hl 0 rfl) ?_
      refine lv_aload_n hx hb dX12_placing_3 rfl (lv_at hl 1 rfl) ?_
      refine mget_8 (v := (i 8)) rfl hx hb hts (fun _ h => List.mem_cons_of_mem _ (List.mem_append_right _ h)) hown hK hP (hts (.fieldLink RX12 202 "TalePlayModel" "sentences" "I") (List.mem_cons_of_mem _ (List.mem_append_left _ (List.mem_of_getElem? (i := 0) rfl)))) dX12_placing_4 ?_
      have rb8_i : 0 ≤ (i 8).toInt ∧ (i 8).toInt ≤ 200 := hI.1 8
      refine lv_icmp_ge (tgt := 47) hx hb dX12_placing_7 (by decide +kernel) (fun c2 => ?_) (fun c2 => ?_)
      · have f2 := (ti_le (a := (i 8).toInt) (b := y1_2.toInt) rfl rfl).mp c2
        refine lv_bipush (v := (-9)) hx hb dX12_placing_47 (by decide +kernel) ?_
        exact ro_iret hx hb hr hlocks hS dX12_placing_49 ⟨(show ((-9) : Int32).toInt = -9 ∨ (0 ≤ ((-9) : Int32).toInt ∧ ((-9) : Int32).toInt ≤ 199) from by decide +kernel), (show ((-9) : Int32).toInt = pL (c 9) (c 10) (c 13) (i 8).toInt w.toInt from by rw [show ((-9) : Int32).toInt = -9 by decide]; exact fs_no hz1_0 (by omega))⟩
      · have f2 := mt (ti_le (a := (i 8).toInt) (b := y1_2.toInt) rfl rfl).mpr c2
        refine lv_aload_n hx hb dX12_placing_10 rfl (lv_at hl 1 rfl) ?_
        refine mget_13 hx hb hts (fun _ h => List.mem_cons_of_mem _ (List.mem_append_right _ h)) hown hK hP (hts (.fieldLink RX12 37 "TalePlayModel" "isSaid" "[Z") (List.mem_cons_of_mem _ (List.mem_append_left _ (List.mem_of_getElem? (i := 1) rfl)))) dX12_placing_11 ?_
        refine lv_iload_n hx hb dX12_placing_14 rfl (lv_at hl 0 rfl) ?_
        refine mld_13 hx hb hK hP (vp_in_iff.mpr (by have h9 : y1_2.toInt = y1_2.toInt := rfl; omega)) dX12_placing_15 (fun x3 ex3 => ?_)
        have rx3 : 0 ≤ x3.toInt ∧ x3.toInt ≤ 1 := by rw [ex3]; exact hI.2 13 _
        have gx3 : (c 13 (y1_2 : Int32).toNatClampNeg).toInt = x3.toInt := by rw [ex3]
        have jn4 : (¬ mP (c 9) (c 10) (c 13) w.toInt y1_2.toNatClampNeg) → ∀ (H : Heap) (locs : List Loc) (ls : Array Slot), va_P D vwCl (mW o a t i q c d) H → va_S (ro s.heap.size) s.heap H locs → lv_has ls 3 [(2, .int y1_2), (0, .ref o), (1, .int w)] → W p l e (headSpec wm_X12_placing ({ frames := 0, cells := 0, slots := 0, locals := 0 })).room s m ([.ref o, .int w] : List Value).toArray below meth cd H locs 0 0 (MQ below (va_Qi (fun (r : Int32) (_ : Unit) => ((r.toInt = -9 ∨ (0 ≤ r.toInt ∧ r.toInt ≤ 199)) ∧ (r.toInt = pL (c 9) (c 10) (c 13) (i 8).toInt w.toInt))) oA (ro s.heap.size)) ([.ref o, .int w] : List Value).toArray s 0 0 (ro s.heap.size)) (F0 m 41 ls []) := by
          intro hz4_0 H locs ls hP hS hl
          obtain ⟨x5, ex5⟩ : ∃ y : Int32, y = y1_2 + 1 := ⟨_, rfl⟩
          have tx5 := ti_add (a := y1_2.toInt) (b := 1) ex5 rfl (by decide +kernel) (by omega) (by omega)
          refine lv_iinc (v := x5) (lv' := [(2, .int x5), (0, .ref o), (1, .int w)]) hx hb dX12_placing_41 hl (k := 0) rfl (by rw [ex5]; rfl) (by decide +kernel) rfl (fun ls hl => ?_)
          refine lv_goto (tgt := 2) hx hb dX12_placing_44 (by decide +kernel) ?_
          exact ih1 x5 (show 0 ≤ x5.toInt ∧ x5.toInt ≤ 200 from by have h50 : x5.toInt = (y1_2.toInt + 1) := tx5; omega) (show ∀ s : Nat, (s : Int) < x5.toInt → ¬ mP (c 9) (c 10) (c 13) w.toInt s from fs_go hz1_0 (by omega) hz4_0 tx5) (by have h50 : x5.toInt = (y1_2.toInt + 1) := tx5; omega) _ _ _ hP hS (lv_sub hl [0, 1, 2] rfl)
        refine lv_if_eq (tgt := 41) hx hb dX12_placing_16 (by decide +kernel) (fun c6 => ?_) (fun c6 => ?_)
        · have f6 := (ti_eq (a := x3.toInt) (b := 0) rfl (by decide +kernel)).mp c6
          exact jn4   (show ¬ mP (c 9) (c 10) (c 13) w.toInt y1_2.toNatClampNeg from by first | omega | (unfold mP; omega)) _ _ _ hP hS (lv_sub hl [0, 1, 2] rfl)
        · have f6 := mt (ti_eq (a := x3.toInt) (b := 0) rfl (by decide +kernel)).mpr c6
          refine lv_aload_n hx hb dX12_placing_19 rfl (lv_at hl 1 rfl) ?_
          refine mget_9 hx hb hts (fun _ h => List.mem_cons_of_mem _ (List.mem_append_right _ h)) hown hK hP (hts (.fieldLink RX12 25 "TalePlayModel" "form" "[I") (List.mem_cons_of_mem _ (List.mem_append_left _ (List.mem_of_getElem? (i := 2) rfl)))) dX12_placing_20 ?_
          refine lv_iload_n hx hb dX12_placing_23 rfl (lv_at hl 0 rfl) ?_
          refine mld_9 hx hb hK hP (vp_in_iff.mpr (by have h9 : y1_2.toInt = y1_2.toInt := rfl; omega)) dX12_placing_24 (fun x7 ex7 => ?_)
          have rx7 : 0 ≤ x7.toInt ∧ x7.toInt ≤ 7 := by rw [ex7]; exact hI.2 9 _
          have gx7 : (c 9 (y1_2 : Int32).toNatClampNeg).toInt = x7.toInt := by rw [ex7]
          refine lv_iconst (v := 5) hx hb dX12_placing_25 (by decide +kernel) ?_
          refine lv_icmp_ge (tgt := 41) hx hb dX12_placing_26 (by decide +kernel) (fun c8 => ?_) (fun c8 => ?_)
          · have f8 := (ti_le (a := 5) (b := x7.toInt) (by decide +kernel) rfl).mp c8
            exact jn4   (show ¬ mP (c 9) (c 10) (c 13) w.toInt y1_2.toNatClampNeg from by first | omega | (unfold mP; omega)) _ _ _ hP hS (lv_sub hl [0, 1, 2] rfl)
          · have f8 := mt (ti_le (a := 5) (b := x7.toInt) (by decide +kernel) rfl).mpr c8
            refine lv_aload_n hx hb dX12_placing_29 rfl (lv_at hl 1 rfl) ?_
            refine mget_10 hx hb hts (fun _ h => List.mem_cons_of_mem _ (List.mem_append_right _ h)) hown hK hP (hts (.fieldLink RX12 28 "TalePlayModel" "left" "[I") (List.mem_cons_of_mem _ (List.mem_append_left _ (List.mem_of_getElem? (i := 3) rfl)))) dX12_placing_30 ?_
            refine lv_iload_n hx hb dX12_placing_33 rfl (lv_at hl 0 rfl) ?_
            refine mld_10 hx hb hK hP (vp_in_iff.mpr (by have h9 : y1_2.toInt = y1_2.toInt := rfl; omega)) dX12_placing_34 (fun x9 ex9 => ?_)
            have rx9 : 0 ≤ x9.toInt ∧ x9.toInt ≤ 29 := by rw [ex9]; exact hI.2 10 _
            have gx9 : (c 10 (y1_2 : Int32).toNatClampNeg).toInt = x9.toInt := by rw [ex9]
            refine lv_iload_n hx hb dX12_placing_35 rfl (lv_at hl 2 rfl) ?_
            refine lv_icmp_ne (tgt := 41) hx hb dX12_placing_36 (by decide +kernel) (fun c10 => ?_) (fun c10 => ?_)
            · have f10 := mt (ti_eq (a := x9.toInt) (b := w.toInt) rfl rfl).mpr c10
              exact jn4   (show ¬ mP (c 9) (c 10) (c 13) w.toInt y1_2.toNatClampNeg from by first | omega | (unfold mP; omega)) _ _ _ hP hS (lv_sub hl [0, 1, 2] rfl)
            · have f10 := (ti_eq (a := x9.toInt) (b := w.toInt) rfl rfl).mp c10
              refine lv_iload_n hx hb dX12_placing_39 rfl (lv_at hl 0 rfl) ?_
              exact ro_iret hx hb hr hlocks hS dX12_placing_40 ⟨(show y1_2.toInt = -9 ∨ (0 ≤ y1_2.toInt ∧ y1_2.toInt ≤ 199) from by omega), (show y1_2.toInt = pL (c 9) (c 10) (c 13) (i 8).toInt w.toInt from fs_yes hz1_0 (by omega) (by omega) (by unfold mP; omega))⟩
  exact lp1 _ (0 : Int32) (show 0 ≤ (0 : Int32).toInt ∧ (0 : Int32).toInt ≤ 200 from by decide +kernel) (show ∀ s : Nat, (s : Int) < (0 : Int32).toInt → ¬ mP (c 9) (c 10) (c 13) w.toInt s from fs_0 (by decide +kernel)) (Nat.lt_succ_self _) _ _ _ hP hS (lv_sub hl [0, 1, 2] rfl)

def wm_X12_keyOf : List Cond := .code yX12_keyOf cX12_keyOf 3 (some .int) :: (([.fieldLink RX12 202 "TalePlayModel" "sentences" "I", .fieldLink RX12 37 "TalePlayModel" "isSaid" "[Z", .fieldLink RX12 25 "TalePlayModel" "form" "[I", .fieldLink RX12 31 "TalePlayModel" "middle" "[I", .fieldLink RX12 28 "TalePlayModel" "left" "[I"] : List Cond) ++ wsX120)
set_option maxHeartbeats 4000000 in
set_option maxRecDepth 100000 in
theorem s_X12_keyOf (l : Launch) (D : va_G) (sz : Nat) (o : Nat) (a : Nat → Nat) (t : Nat → ClassId) (i : Nat → Int32) (q : Int64) (c : Nat → Nat → Int32) (d : Nat → Nat → Int64) (w : Int32) (hI : mInv i c) : Met l yX12_keyOf wm_X12_keyOf ({ frames := 0, cells := 0, slots := 0, locals := 0 }) (va_Pc [.ref o, .int w] (pA D sz (mW o a t i q c d) (mT t))) (va_Qi (fun (r : Int32) (_ : Unit) => (r.toInt = -9 ∨ (0 ≤ r.toInt ∧ r.toInt ≤ 29))) oA (ro sz)) 0 0 (ro sz) := by
  refine Met.ofW (cc := cX12_keyOf) (maxL := 3) (ret := (some .int)) (by decide +kernel) rfl ?_
  intro p e s m args below meth cd s₁ B hml hv
  obtain ⟨rfl, hsz, hP, hK⟩ := hv
  have hx := B.exec
  have hb := B.bytes
  have hr := B.returns
  have hts := atoms_spec (ws := wm_X12_keyOf) B.pre
  have hown : s.vm.findClass RX12 = some m.cls := findClass_of_methodNamed B.named
  have hlocks := B.notSynchronized
  subst hsz
  have hA : ∀ q : Nat, s.heap.size ≤ q → ro s.heap.size q := fun _ h => h
  have hS : va_S (ro s.heap.size) s.heap s.heap [] := va_S.rf
  have hl := lv_entry ([.ref o, .int w]) (n := 3) (Nat.le_of_ble_eq_true rfl)
  rw [lg_entry_eq]
  generalize (lg_sl ([.ref o, .int w]) ++ List.replicate (3 - (lg_sl ([.ref o, .int w])).length) Slot.unset).toArray = ls at hl ⊢
  have hl : lv_has ls 3 [(0, .ref o), (1, .int w)] := hl
  refine lv_iconst (v := 0) hx hb dX12_keyOf_0 (by decide +kernel) ?_
  refine lv_istore_n (lv' := [(2, .int 0), (0, .ref o), (1, .int w)]) hx hb dX12_keyOf_1 rfl hl (by decide +kernel) rfl (fun ls hl => ?_)
  have lp1 : ∀ (fu : Nat) (y1_2 : Int32), (0 ≤ y1_2.toInt ∧ y1_2.toInt ≤ 200) → (200 - y1_2.toInt).toNat < fu → ∀ (H : Heap) (locs : List Loc) (ls : Array Slot), va_P D vwCl (mW o a t i q c d) H → va_S (ro s.heap.size) s.heap H locs → lv_has ls 3 [(2, .int y1_2), (0, .ref o), (1, .int w)] → W p l e (headSpec wm_X12_keyOf ({ frames := 0, cells := 0, slots := 0, locals := 0 })).room s m ([.ref o, .int w] : List Value).toArray below meth cd H locs 0 0 (MQ below (va_Qi (fun (r : Int32) (_ : Unit) => (r.toInt = -9 ∨ (0 ≤ r.toInt ∧ r.toInt ≤ 29))) oA (ro s.heap.size)) ([.ref o, .int w] : List Value).toArray s 0 0 (ro s.heap.size)) (F0 m 2 ls []) := by
    intro fu
    induction fu with
    | zero => intro y1_2 hy1_2 hm; exact absurd hm (Nat.not_lt_zero _)
    | succ fu ih =>
      intro y1_2 hy1_2 hm H locs ls hP hS hl
      have ih1 := ih
      refine lv_iload_n hx hb dX12_keyOf_2 rfl (lv_at hl 0 rfl) ?_
      refine lv_aload_n hx hb dX12_keyOf_3 rfl (lv_at hl 1 rfl) ?_
      refine mget_8 (v := (i 8)) rfl hx hb hts (fun _ h => List.mem_cons_of_mem _ (List.mem_append_right _ h)) hown hK hP (hts (.fieldLink RX12 202 "TalePlayModel" "sentences" "I") (List.mem_cons_of_mem _ (List.mem_append_left _ (List.mem_of_getElem? (i := 0) rfl)))) dX12_keyOf_4 ?_
      have rb8_i : 0 ≤ (i 8).toInt ∧ (i 8).toInt ≤ 200 := hI.1 8
      refine lv_icmp_ge (tgt := 53) hx hb dX12_keyOf_7 (by decide +kernel) (fun c2 => ?_) (fun c2 => ?_)
      · have f2 := (ti_le (a := (i 8).toInt) (b := y1_2.toInt) rfl rfl).mp c2
        refine lv_bipush (v := (-9)) hx hb dX12_keyOf_53 (by decide +kernel) ?_
        exact ro_iret hx hb hr hlocks hS dX12_keyOf_55 (show ((-9) : Int32).toInt = -9 ∨ (0 ≤ ((-9) : Int32).toInt ∧ ((-9) : Int32).toInt ≤ 29) from by decide +kernel)
      · have f2 := mt (ti_le (a := (i 8).toInt) (b := y1_2.toInt) rfl rfl).mpr c2
        refine lv_aload_n hx hb dX12_keyOf_10 rfl (lv_at hl 1 rfl) ?_
        refine mget_13 hx hb hts (fun _ h => List.mem_cons_of_mem _ (List.mem_append_right _ h)) hown hK hP (hts (.fieldLink RX12 37 "TalePlayModel" "isSaid" "[Z") (List.mem_cons_of_mem _ (List.mem_append_left _ (List.mem_of_getElem? (i := 1) rfl)))) dX12_keyOf_11 ?_
        refine lv_iload_n hx hb dX12_keyOf_14 rfl (lv_at hl 0 rfl) ?_
        refine mld_13 hx hb hK hP (vp_in_iff.mpr (by have h9 : y1_2.toInt = y1_2.toInt := rfl; omega)) dX12_keyOf_15 (fun x3 ex3 => ?_)
        have rx3 : 0 ≤ x3.toInt ∧ x3.toInt ≤ 1 := by rw [ex3]; exact hI.2 13 _
        have jn4 : ∀ (H : Heap) (locs : List Loc) (ls : Array Slot), va_P D vwCl (mW o a t i q c d) H → va_S (ro s.heap.size) s.heap H locs → lv_has ls 3 [(2, .int y1_2), (0, .ref o), (1, .int w)] → W p l e (headSpec wm_X12_keyOf ({ frames := 0, cells := 0, slots := 0, locals := 0 })).room s m ([.ref o, .int w] : List Value).toArray below meth cd H locs 0 0 (MQ below (va_Qi (fun (r : Int32) (_ : Unit) => (r.toInt = -9 ∨ (0 ≤ r.toInt ∧ r.toInt ≤ 29))) oA (ro s.heap.size)) ([.ref o, .int w] : List Value).toArray s 0 0 (ro s.heap.size)) (F0 m 47 ls []) := by
          intro H locs ls hP hS hl
          obtain ⟨x5, ex5⟩ : ∃ y : Int32, y = y1_2 + 1 := ⟨_, rfl⟩
          have tx5 := ti_add (a := y1_2.toInt) (b := 1) ex5 rfl (by decide +kernel) (by omega) (by omega)
          refine lv_iinc (v := x5) (lv' := [(2, .int x5), (0, .ref o), (1, .int w)]) hx hb dX12_keyOf_47 hl (k := 0) rfl (by rw [ex5]; rfl) (by decide +kernel) rfl (fun ls hl => ?_)
          refine lv_goto (tgt := 2) hx hb dX12_keyOf_50 (by decide +kernel) ?_
          exact ih1 x5 (show 0 ≤ x5.toInt ∧ x5.toInt ≤ 200 from by have h50 : x5.toInt = (y1_2.toInt + 1) := tx5; omega) (by have h50 : x5.toInt = (y1_2.toInt + 1) := tx5; omega) _ _ _ hP hS (lv_sub hl [0, 1, 2] rfl)
        refine lv_if_eq (tgt := 47) hx hb dX12_keyOf_16 (by decide +kernel) (fun c6 => ?_) (fun c6 => ?_)
        · have f6 := (ti_eq (a := x3.toInt) (b := 0) rfl (by decide +kernel)).mp c6
          exact jn4    _ _ _ hP hS (lv_sub hl [0, 1, 2] rfl)
        · have f6 := mt (ti_eq (a := x3.toInt) (b := 0) rfl (by decide +kernel)).mpr c6
          refine lv_aload_n hx hb dX12_keyOf_19 rfl (lv_at hl 1 rfl) ?_
          refine mget_9 hx hb hts (fun _ h => List.mem_cons_of_mem _ (List.mem_append_right _ h)) hown hK hP (hts (.fieldLink RX12 25 "TalePlayModel" "form" "[I") (List.mem_cons_of_mem _ (List.mem_append_left _ (List.mem_of_getElem? (i := 2) rfl)))) dX12_keyOf_20 ?_
          refine lv_iload_n hx hb dX12_keyOf_23 rfl (lv_at hl 0 rfl) ?_
          refine mld_9 hx hb hK hP (vp_in_iff.mpr (by have h9 : y1_2.toInt = y1_2.toInt := rfl; omega)) dX12_keyOf_24 (fun x7 ex7 => ?_)
          have rx7 : 0 ≤ x7.toInt ∧ x7.toInt ≤ 7 := by rw [ex7]; exact hI.2 9 _
          refine lv_bipush (v := 7) hx hb dX12_keyOf_25 (by decide +kernel) ?_
          refine lv_icmp_ne (tgt := 47) hx hb dX12_keyOf_27 (by decide +kernel) (fun c8 => ?_) (fun c8 => ?_)
          · have f8 := mt (ti_eq (a := x7.toInt) (b := 7) rfl (by decide +kernel)).mpr c8
            exact jn4    _ _ _ hP hS (lv_sub hl [0, 1, 2] rfl)
          · have f8 := (ti_eq (a := x7.toInt) (b := 7) rfl (by decide +kernel)).mp c8
            refine lv_aload_n hx hb dX12_keyOf_30 rfl (lv_at hl 1 rfl) ?_
            refine mget_11 hx hb hts (fun _ h => List.mem_cons_of_mem _ (List.mem_append_right _ h)) hown hK hP (hts (.fieldLink RX12 31 "TalePlayModel" "middle" "[I") (List.mem_cons_of_mem _ (List.mem_append_left _ (List.mem_of_getElem? (i := 3) rfl)))) dX12_keyOf_31 ?_
            refine lv_iload_n hx hb dX12_keyOf_34 rfl (lv_at hl 0 rfl) ?_
            refine mld_11 hx hb hK hP (vp_in_iff.mpr (by have h9 : y1_2.toInt = y1_2.toInt := rfl; omega)) dX12_keyOf_35 (fun x9 ex9 => ?_)
            have rx9 : 0 ≤ x9.toInt ∧ x9.toInt ≤ 29 := by rw [ex9]; exact hI.2 11 _
            refine lv_iload_n hx hb dX12_keyOf_36 rfl (lv_at hl 2 rfl) ?_
            refine lv_icmp_ne (tgt := 47) hx hb dX12_keyOf_37 (by decide +kernel) (fun c10 => ?_) (fun c10 => ?_)
            · have f10 := mt (ti_eq (a := x9.toInt) (b := w.toInt) rfl rfl).mpr c10
              exact jn4    _ _ _ hP hS (lv_sub hl [0, 1, 2] rfl)
            · have f10 := (ti_eq (a := x9.toInt) (b := w.toInt) rfl rfl).mp c10
              refine lv_aload_n hx hb dX12_keyOf_40 rfl (lv_at hl 1 rfl) ?_
              refine mget_10 hx hb hts (fun _ h => List.mem_cons_of_mem _ (List.mem_append_right _ h)) hown hK hP (hts (.fieldLink RX12 28 "TalePlayModel" "left" "[I") (List.mem_cons_of_mem _ (List.mem_append_left _ (List.mem_of_getElem? (i := 4) rfl)))) dX12_keyOf_41 ?_
              refine lv_iload_n hx hb dX12_keyOf_44 rfl (lv_at hl 0 rfl) ?_
              refine mld_10 hx hb hK hP (vp_in_iff.mpr (by have h9 : y1_2.toInt = y1_2.toInt := rfl; omega)) dX12_keyOf_45 (fun x11 ex11 => ?_)
              have rx11 : 0 ≤ x11.toInt ∧ x11.toInt ≤ 29 := by rw [ex11]; exact hI.2 10 _
              exact ro_iret hx hb hr hlocks hS dX12_keyOf_46 (show x11.toInt = -9 ∨ (0 ≤ x11.toInt ∧ x11.toInt ≤ 29) from by omega)
  exact lp1 _ (0 : Int32) (show 0 ≤ (0 : Int32).toInt ∧ (0 : Int32).toInt ≤ 200 from by decide +kernel) (Nat.lt_succ_self _) _ _ _ hP hS (lv_sub hl [0, 1, 2] rfl)

def wm_X12_isSide : List Cond := .code yX12_isSide cX12_isSide 4 (some .boolean) :: (([.fieldLink RX12 202 "TalePlayModel" "sentences" "I", .fieldLink RX12 37 "TalePlayModel" "isSaid" "[Z", .fieldLink RX12 25 "TalePlayModel" "form" "[I", .fieldLink RX12 31 "TalePlayModel" "middle" "[I", .fieldLink RX12 28 "TalePlayModel" "left" "[I"] : List Cond) ++ wsX120)
set_option maxHeartbeats 4000000 in
set_option maxRecDepth 100000 in
theorem s_X12_isSide (l : Launch) (D : va_G) (sz : Nat) (o : Nat) (a : Nat → Nat) (t : Nat → ClassId) (i : Nat → Int32) (q : Int64) (c : Nat → Nat → Int32) (d : Nat → Nat → Int64) (w : Int32) (r1 : Int32) (hI : mInv i c) : Met l yX12_isSide wm_X12_isSide ({ frames := 0, cells := 0, slots := 0, locals := 0 }) (va_Pc [.ref o, .int w, .int r1] (pA D sz (mW o a t i q c d) (mT t))) (va_Qi (fun (r : Int32) (_ : Unit) => (0 ≤ r.toInt ∧ r.toInt ≤ 1)) oA (ro sz)) 0 0 (ro sz) := by
  refine Met.ofW (cc := cX12_isSide) (maxL := 4) (ret := (some .boolean)) (by decide +kernel) rfl ?_
  intro p e s m args below meth cd s₁ B hml hv
  obtain ⟨rfl, hsz, hP, hK⟩ := hv
  have hx := B.exec
  have hb := B.bytes
  have hr := B.returns
  have hts := atoms_spec (ws := wm_X12_isSide) B.pre
  have hown : s.vm.findClass RX12 = some m.cls := findClass_of_methodNamed B.named
  have hlocks := B.notSynchronized
  subst hsz
  have hA : ∀ q : Nat, s.heap.size ≤ q → ro s.heap.size q := fun _ h => h
  have hS : va_S (ro s.heap.size) s.heap s.heap [] := va_S.rf
  have hl := lv_entry ([.ref o, .int w, .int r1]) (n := 4) (Nat.le_of_ble_eq_true rfl)
  rw [lg_entry_eq]
  generalize (lg_sl ([.ref o, .int w, .int r1]) ++ List.replicate (4 - (lg_sl ([.ref o, .int w, .int r1])).length) Slot.unset).toArray = ls at hl ⊢
  have hl : lv_has ls 4 [(0, .ref o), (1, .int w), (2, .int r1)] := hl
  refine lv_iconst (v := 0) hx hb dX12_isSide_0 (by decide +kernel) ?_
  refine lv_istore_n (lv' := [(3, .int 0), (0, .ref o), (1, .int w), (2, .int r1)]) hx hb dX12_isSide_1 rfl hl (by decide +kernel) rfl (fun ls hl => ?_)
  have lp1 : ∀ (fu : Nat) (y1_3 : Int32), (0 ≤ y1_3.toInt ∧ y1_3.toInt ≤ 200) → (200 - y1_3.toInt).toNat < fu → ∀ (H : Heap) (locs : List Loc) (ls : Array Slot), va_P D vwCl (mW o a t i q c d) H → va_S (ro s.heap.size) s.heap H locs → lv_has ls 4 [(3, .int y1_3), (0, .ref o), (1, .int w), (2, .int r1)] → W p l e (headSpec wm_X12_isSide ({ frames := 0, cells := 0, slots := 0, locals := 0 })).room s m ([.ref o, .int w, .int r1] : List Value).toArray below meth cd H locs 0 0 (MQ below (va_Qi (fun (r : Int32) (_ : Unit) => (0 ≤ r.toInt ∧ r.toInt ≤ 1)) oA (ro s.heap.size)) ([.ref o, .int w, .int r1] : List Value).toArray s 0 0 (ro s.heap.size)) (F0 m 2 ls []) := by
    intro fu
    induction fu with
    | zero => intro y1_3 hy1_3 hm; exact absurd hm (Nat.not_lt_zero _)
    | succ fu ih =>
      intro y1_3 hy1_3 hm H locs ls hP hS hl
      have ih1 := ih
      refine lv_iload_n hx hb dX12_isSide_2 rfl (lv_at hl 0 rfl) ?_
      refine lv_aload_n hx hb dX12_isSide_3 rfl (lv_at hl 1 rfl) ?_
      refine mget_8 (v := (i 8)) rfl hx hb hts (fun _ h => List.mem_cons_of_mem _ (List.mem_append_right _ h)) hown hK hP (hts (.fieldLink RX12 202 "TalePlayModel" "sentences" "I") (List.mem_cons_of_mem _ (List.mem_append_left _ (List.mem_of_getElem? (i := 0) rfl)))) dX12_isSide_4 ?_
      have rb8_i : 0 ≤ (i 8).toInt ∧ (i 8).toInt ≤ 200 := hI.1 8
      refine lv_icmp_ge (tgt := 57) hx hb dX12_isSide_7 (by decide +kernel) (fun c2 => ?_) (fun c2 => ?_)
      · have f2 := (ti_le (a := (i 8).toInt) (b := y1_3.toInt) rfl rfl).mp c2
        refine lv_iconst (v := 0) hx hb dX12_isSide_57 (by decide +kernel) ?_
        exact ro_zret hx hb hr hlocks hS rfl dX12_isSide_58 (show 0 ≤ (0 : Int32).toInt ∧ (0 : Int32).toInt ≤ 1 from by decide +kernel)
      · have f2 := mt (ti_le (a := (i 8).toInt) (b := y1_3.toInt) rfl rfl).mpr c2
        refine lv_aload_n hx hb dX12_isSide_10 rfl (lv_at hl 1 rfl) ?_
        refine mget_13 hx hb hts (fun _ h => List.mem_cons_of_mem _ (List.mem_append_right _ h)) hown hK hP (hts (.fieldLink RX12 37 "TalePlayModel" "isSaid" "[Z") (List.mem_cons_of_mem _ (List.mem_append_left _ (List.mem_of_getElem? (i := 1) rfl)))) dX12_isSide_11 ?_
        refine lv_iload_n hx hb dX12_isSide_14 rfl (lv_at hl 0 rfl) ?_
        refine mld_13 hx hb hK hP (vp_in_iff.mpr (by have h9 : y1_3.toInt = y1_3.toInt := rfl; omega)) dX12_isSide_15 (fun x3 ex3 => ?_)
        have rx3 : 0 ≤ x3.toInt ∧ x3.toInt ≤ 1 := by rw [ex3]; exact hI.2 13 _
        have jn4 : ∀ (H : Heap) (locs : List Loc) (ls : Array Slot), va_P D vwCl (mW o a t i q c d) H → va_S (ro s.heap.size) s.heap H locs → lv_has ls 4 [(3, .int y1_3), (0, .ref o), (1, .int w), (2, .int r1)] → W p l e (headSpec wm_X12_isSide ({ frames := 0, cells := 0, slots := 0, locals := 0 })).room s m ([.ref o, .int w, .int r1] : List Value).toArray below meth cd H locs 0 0 (MQ below (va_Qi (fun (r : Int32) (_ : Unit) => (0 ≤ r.toInt ∧ r.toInt ≤ 1)) oA (ro s.heap.size)) ([.ref o, .int w, .int r1] : List Value).toArray s 0 0 (ro s.heap.size)) (F0 m 51 ls []) := by
          intro H locs ls hP hS hl
          obtain ⟨x5, ex5⟩ : ∃ y : Int32, y = y1_3 + 1 := ⟨_, rfl⟩
          have tx5 := ti_add (a := y1_3.toInt) (b := 1) ex5 rfl (by decide +kernel) (by omega) (by omega)
          refine lv_iinc (v := x5) (lv' := [(3, .int x5), (0, .ref o), (1, .int w), (2, .int r1)]) hx hb dX12_isSide_51 hl (k := 0) rfl (by rw [ex5]; rfl) (by decide +kernel) rfl (fun ls hl => ?_)
          refine lv_goto (tgt := 2) hx hb dX12_isSide_54 (by decide +kernel) ?_
          exact ih1 x5 (show 0 ≤ x5.toInt ∧ x5.toInt ≤ 200 from by have h50 : x5.toInt = (y1_3.toInt + 1) := tx5; omega) (by have h50 : x5.toInt = (y1_3.toInt + 1) := tx5; omega) _ _ _ hP hS (lv_sub hl [0, 1, 2, 3] rfl)
        refine lv_if_eq (tgt := 51) hx hb dX12_isSide_16 (by decide +kernel) (fun c6 => ?_) (fun c6 => ?_)
        · have f6 := (ti_eq (a := x3.toInt) (b := 0) rfl (by decide +kernel)).mp c6
          exact jn4    _ _ _ hP hS (lv_sub hl [0, 1, 2, 3] rfl)
        · have f6 := mt (ti_eq (a := x3.toInt) (b := 0) rfl (by decide +kernel)).mpr c6
          refine lv_aload_n hx hb dX12_isSide_19 rfl (lv_at hl 1 rfl) ?_
          refine mget_9 hx hb hts (fun _ h => List.mem_cons_of_mem _ (List.mem_append_right _ h)) hown hK hP (hts (.fieldLink RX12 25 "TalePlayModel" "form" "[I") (List.mem_cons_of_mem _ (List.mem_append_left _ (List.mem_of_getElem? (i := 2) rfl)))) dX12_isSide_20 ?_
          refine lv_iload_n hx hb dX12_isSide_23 rfl (lv_at hl 0 rfl) ?_
          refine mld_9 hx hb hK hP (vp_in_iff.mpr (by have h9 : y1_3.toInt = y1_3.toInt := rfl; omega)) dX12_isSide_24 (fun x7 ex7 => ?_)
          have rx7 : 0 ≤ x7.toInt ∧ x7.toInt ≤ 7 := by rw [ex7]; exact hI.2 9 _
          refine lv_iconst (v := 5) hx hb dX12_isSide_25 (by decide +kernel) ?_
          refine lv_icmp_ne (tgt := 51) hx hb dX12_isSide_26 (by decide +kernel) (fun c8 => ?_) (fun c8 => ?_)
          · have f8 := mt (ti_eq (a := x7.toInt) (b := 5) rfl (by decide +kernel)).mpr c8
            exact jn4    _ _ _ hP hS (lv_sub hl [0, 1, 2, 3] rfl)
          · have f8 := (ti_eq (a := x7.toInt) (b := 5) rfl (by decide +kernel)).mp c8
            refine lv_aload_n hx hb dX12_isSide_29 rfl (lv_at hl 1 rfl) ?_
            refine mget_11 hx hb hts (fun _ h => List.mem_cons_of_mem _ (List.mem_append_right _ h)) hown hK hP (hts (.fieldLink RX12 31 "TalePlayModel" "middle" "[I") (List.mem_cons_of_mem _ (List.mem_append_left _ (List.mem_of_getElem? (i := 3) rfl)))) dX12_isSide_30 ?_
            refine lv_iload_n hx hb dX12_isSide_33 rfl (lv_at hl 0 rfl) ?_
            refine mld_11 hx hb hK hP (vp_in_iff.mpr (by have h9 : y1_3.toInt = y1_3.toInt := rfl; omega)) dX12_isSide_34 (fun x9 ex9 => ?_)
            have rx9 : 0 ≤ x9.toInt ∧ x9.toInt ≤ 29 := by rw [ex9]; exact hI.2 11 _
            refine lv_iload_n hx hb dX12_isSide_35 rfl (lv_at hl 2 rfl) ?_
            refine lv_icmp_ne (tgt := 51) hx hb dX12_isSide_36 (by decide +kernel) (fun c10 => ?_) (fun c10 => ?_)
            · have f10 := mt (ti_eq (a := x9.toInt) (b := w.toInt) rfl rfl).mpr c10
              exact jn4    _ _ _ hP hS (lv_sub hl [0, 1, 2, 3] rfl)
            · have f10 := (ti_eq (a := x9.toInt) (b := w.toInt) rfl rfl).mp c10
              refine lv_aload_n hx hb dX12_isSide_39 rfl (lv_at hl 1 rfl) ?_
              refine mget_10 hx hb hts (fun _ h => List.mem_cons_of_mem _ (List.mem_append_right _ h)) hown hK hP (hts (.fieldLink RX12 28 "TalePlayModel" "left" "[I") (List.mem_cons_of_mem _ (List.mem_append_left _ (List.mem_of_getElem? (i := 4) rfl)))) dX12_isSide_40 ?_
              refine lv_iload_n hx hb dX12_isSide_43 rfl (lv_at hl 0 rfl) ?_
              refine mld_10 hx hb hK hP (vp_in_iff.mpr (by have h9 : y1_3.toInt = y1_3.toInt := rfl; omega)) dX12_isSide_44 (fun x11 ex11 => ?_)
              have rx11 : 0 ≤ x11.toInt ∧ x11.toInt ≤ 29 := by rw [ex11]; exact hI.2 10 _
              refine lv_iload_n hx hb dX12_isSide_45 rfl (lv_at hl 3 rfl) ?_
              refine lv_icmp_ne (tgt := 51) hx hb dX12_isSide_46 (by decide +kernel) (fun c12 => ?_) (fun c12 => ?_)
              · have f12 := mt (ti_eq (a := x11.toInt) (b := r1.toInt) rfl rfl).mpr c12
                exact jn4    _ _ _ hP hS (lv_sub hl [0, 1, 2, 3] rfl)
              · have f12 := (ti_eq (a := x11.toInt) (b := r1.toInt) rfl rfl).mp c12
                refine lv_iconst (v := 1) hx hb dX12_isSide_49 (by decide +kernel) ?_
                exact ro_zret hx hb hr hlocks hS rfl dX12_isSide_50 (show 0 ≤ (1 : Int32).toInt ∧ (1 : Int32).toInt ≤ 1 from by decide +kernel)
  exact lp1 _ (0 : Int32) (show 0 ≤ (0 : Int32).toInt ∧ (0 : Int32).toInt ≤ 200 from by decide +kernel) (Nat.lt_succ_self _) _ _ _ hP hS (lv_sub hl [0, 1, 2, 3] rfl)

def wm_X12_isOf : List Cond := .code yX12_isOf cX12_isOf 4 (some .boolean) :: (([.fieldLink RX12 19 "TalePlayModel" "kindOf" "[I", .fieldLink RX12 13 "TalePlayModel" "parentOf" "[I"] : List Cond) ++ wsX120)
set_option maxHeartbeats 4000000 in
set_option maxRecDepth 100000 in
theorem s_X12_isOf (l : Launch) (D : va_G) (sz : Nat) (o : Nat) (a : Nat → Nat) (t : Nat → ClassId) (i : Nat → Int32) (q : Int64) (c : Nat → Nat → Int32) (d : Nat → Nat → Int64) (w : Int32) (k : Int32) (hI : mInv i c) (hw : 0 ≤ w.toInt ∧ w.toInt ≤ 29) (hk : 0 ≤ k.toInt) : Met l yX12_isOf wm_X12_isOf ({ frames := 0, cells := 0, slots := 0, locals := 0 }) (va_Pc [.ref o, .int w, .int k] (pA D sz (mW o a t i q c d) (mT t))) (va_Qi (fun (r : Int32) (_ : Unit) => ((0 ≤ r.toInt ∧ r.toInt ≤ 1) ∧ (Sm r (Kd (c 3) (c 6) w.toInt k.toInt)))) oA (ro sz)) 0 0 (ro sz) := by
  refine Met.ofW (cc := cX12_isOf) (maxL := 4) (ret := (some .boolean)) (by decide +kernel) rfl ?_
  intro p e s m args below meth cd s₁ B hml hv
  obtain ⟨rfl, hsz, hP, hK⟩ := hv
  have hx := B.exec
  have hb := B.bytes
  have hr := B.returns
  have hts := atoms_spec (ws := wm_X12_isOf) B.pre
  have hown : s.vm.findClass RX12 = some m.cls := findClass_of_methodNamed B.named
  have hlocks := B.notSynchronized
  subst hsz
  have hA : ∀ q : Nat, s.heap.size ≤ q → ro s.heap.size q := fun _ h => h
  have hS : va_S (ro s.heap.size) s.heap s.heap [] := va_S.rf
  have hl := lv_entry ([.ref o, .int w, .int k]) (n := 4) (Nat.le_of_ble_eq_true rfl)
  rw [lg_entry_eq]
  generalize (lg_sl ([.ref o, .int w, .int k]) ++ List.replicate (4 - (lg_sl ([.ref o, .int w, .int k])).length) Slot.unset).toArray = ls at hl ⊢
  have hl : lv_has ls 4 [(0, .ref o), (1, .int w), (2, .int k)] := hl
  refine lv_aload_n hx hb dX12_isOf_0 rfl (lv_at hl 0 rfl) ?_
  refine mget_6 hx hb hts (fun _ h => List.mem_cons_of_mem _ (List.mem_append_right _ h)) hown hK hP (hts (.fieldLink RX12 19 "TalePlayModel" "kindOf" "[I") (List.mem_cons_of_mem _ (List.mem_append_left _ (List.mem_of_getElem? (i := 0) rfl)))) dX12_isOf_1 ?_
  refine lv_iload_n hx hb dX12_isOf_4 rfl (lv_at hl 1 rfl) ?_
  refine mld_6 hx hb hK hP (vp_in_iff.mpr (by have h9 : w.toInt = w.toInt := rfl; omega)) dX12_isOf_5 (fun x1 ex1 => ?_)
  have rx1 : 0 ≤ x1.toInt ∧ x1.toInt ≤ 23 := by rw [ex1]; exact hI.2 6 _
  refine lv_istore_n (lv' := [(3, .int x1), (0, .ref o), (1, .int w), (2, .int k)]) hx hb dX12_isOf_6 rfl hl (by decide +kernel) rfl (fun ls hl => ?_)
  have lp2 : ∀ (fu : Nat) (y2_3 : Int32), (y2_3.toInt = -9 ∨ (0 ≤ y2_3.toInt ∧ y2_3.toInt ≤ 23)) → (Ch (kF (c 3)) (c 6 w.toInt.toNat).toInt k.toInt ↔ Ch (kF (c 3)) y2_3.toInt k.toInt) → (y2_3.toInt + 10).toNat < fu → ∀ (H : Heap) (locs : List Loc) (ls : Array Slot), va_P D vwCl (mW o a t i q c d) H → va_S (ro s.heap.size) s.heap H locs → lv_has ls 4 [(3, .int y2_3), (0, .ref o), (1, .int w), (2, .int k)] → W p l e (headSpec wm_X12_isOf ({ frames := 0, cells := 0, slots := 0, locals := 0 })).room s m ([.ref o, .int w, .int k] : List Value).toArray below meth cd H locs 0 0 (MQ below (va_Qi (fun (r : Int32) (_ : Unit) => ((0 ≤ r.toInt ∧ r.toInt ≤ 1) ∧ (Sm r (Kd (c 3) (c 6) w.toInt k.toInt)))) oA (ro s.heap.size)) ([.ref o, .int w, .int k] : List Value).toArray s 0 0 (ro s.heap.size)) (F0 m 7 ls []) := by
    intro fu
    induction fu with
    | zero => intro y2_3 hy2_3 hz2_0 hm; exact absurd hm (Nat.not_lt_zero _)
    | succ fu ih =>
      intro y2_3 hy2_3 hz2_0 hm H locs ls hP hS hl
      have ih2 := ih
      refine lv_iload_n hx hb dX12_isOf_7 rfl (lv_at hl 0 rfl) ?_
      refine lv_bipush (v := (-9)) hx hb dX12_isOf_8 (by decide +kernel) ?_
      refine lv_icmp_eq (tgt := 28) hx hb dX12_isOf_10 (by decide +kernel) (fun c3 => ?_) (fun c3 => ?_)
      · have f3 := (ti_eq (a := y2_3.toInt) (b := (-9)) rfl (by decide +kernel)).mp c3
        refine lv_iload_n hx hb dX12_isOf_28 rfl (lv_at hl 0 rfl) ?_
        refine lv_iload_n hx hb dX12_isOf_29 rfl (lv_at hl 3 rfl) ?_
        refine lv_icmp_ne (tgt := 37) hx hb dX12_isOf_30 (by decide +kernel) (fun c4 => ?_) (fun c4 => ?_)
        · have f4 := mt (ti_eq (a := y2_3.toInt) (b := k.toInt) rfl rfl).mpr c4
          refine lv_iconst (v := 0) hx hb dX12_isOf_37 (by decide +kernel) ?_
          exact ro_zret hx hb hr hlocks hS rfl dX12_isOf_38 ⟨(show 0 ≤ (0 : Int32).toInt ∧ (0 : Int32).toInt ≤ 1 from by decide +kernel), (show Sm (0 : Int32) (Kd (c 3) (c 6) w.toInt k.toInt) from sm_0 (fun h9 => by have h8 := hz2_0.mp h9; rw [show y2_3.toInt = -9 by omega] at h8; have h7 := Ch_nd kF_9 h8; omega))⟩
        · have f4 := (ti_eq (a := y2_3.toInt) (b := k.toInt) rfl rfl).mp c4
          refine lv_iconst (v := 1) hx hb dX12_isOf_33 (by decide +kernel) ?_
          refine lv_goto (tgt := 38) hx hb dX12_isOf_34 (by decide +kernel) ?_
          exact ro_zret hx hb hr hlocks hS rfl dX12_isOf_38 ⟨(show 0 ≤ (1 : Int32).toInt ∧ (1 : Int32).toInt ≤ 1 from by decide +kernel), (show Sm (1 : Int32) (Kd (c 3) (c 6) w.toInt k.toInt) from sm_1 (hz2_0.mpr (by rw [show y2_3.toInt = k.toInt by omega]; exact Ch_rf)))⟩
      · have f3 := mt (ti_eq (a := y2_3.toInt) (b := (-9)) rfl (by decide +kernel)).mpr c3
        refine lv_iload_n hx hb dX12_isOf_13 rfl (lv_at hl 0 rfl) ?_
        refine lv_iload_n hx hb dX12_isOf_14 rfl (lv_at hl 3 rfl) ?_
        refine lv_icmp_eq (tgt := 28) hx hb dX12_isOf_15 (by decide +kernel) (fun c5 => ?_) (fun c5 => ?_)
        · have f5 := (ti_eq (a := y2_3.toInt) (b := k.toInt) rfl rfl).mp c5
          refine lv_iload_n hx hb dX12_isOf_28 rfl (lv_at hl 0 rfl) ?_
          refine lv_iload_n hx hb dX12_isOf_29 rfl (lv_at hl 3 rfl) ?_
          refine lv_icmp_ne (tgt := 37) hx hb dX12_isOf_30 (by decide +kernel) (fun c6 => ?_) (fun c6 => ?_)
          · have f6 := mt (ti_eq (a := y2_3.toInt) (b := k.toInt) rfl rfl).mpr c6
            refine lv_iconst (v := 0) hx hb dX12_isOf_37 (by decide +kernel) ?_
            exact ro_zret hx hb hr hlocks hS rfl dX12_isOf_38 ⟨(show 0 ≤ (0 : Int32).toInt ∧ (0 : Int32).toInt ≤ 1 from by decide +kernel), (show Sm (0 : Int32) (Kd (c 3) (c 6) w.toInt k.toInt) from sm_0 (fun h9 => by have h8 := hz2_0.mp h9; rw [show y2_3.toInt = -9 by omega] at h8; have h7 := Ch_nd kF_9 h8; omega))⟩
          · have f6 := (ti_eq (a := y2_3.toInt) (b := k.toInt) rfl rfl).mp c6
            refine lv_iconst (v := 1) hx hb dX12_isOf_33 (by decide +kernel) ?_
            refine lv_goto (tgt := 38) hx hb dX12_isOf_34 (by decide +kernel) ?_
            exact ro_zret hx hb hr hlocks hS rfl dX12_isOf_38 ⟨(show 0 ≤ (1 : Int32).toInt ∧ (1 : Int32).toInt ≤ 1 from by decide +kernel), (show Sm (1 : Int32) (Kd (c 3) (c 6) w.toInt k.toInt) from sm_1 (hz2_0.mpr (by rw [show y2_3.toInt = k.toInt by omega]; exact Ch_rf)))⟩
        · have f5 := mt (ti_eq (a := y2_3.toInt) (b := k.toInt) rfl rfl).mpr c5
          refine lv_aload_n hx hb dX12_isOf_18 rfl (lv_at hl 1 rfl) ?_
          refine mget_3 hx hb hts (fun _ h => List.mem_cons_of_mem _ (List.mem_append_right _ h)) hown hK hP (hts (.fieldLink RX12 13 "TalePlayModel" "parentOf" "[I") (List.mem_cons_of_mem _ (List.mem_append_left _ (List.mem_of_getElem? (i := 1) rfl)))) dX12_isOf_19 ?_
          refine lv_iload_n hx hb dX12_isOf_22 rfl (lv_at hl 0 rfl) ?_
          refine mld_3 hx hb hK hP (vp_in_iff.mpr (by have h9 : y2_3.toInt = y2_3.toInt := rfl; omega)) dX12_isOf_23 (fun x7 ex7 => ?_)
          have rx7 : ((((y2_3 : Int32).toNatClampNeg : Nat) : Int) ≤ 1 ∧ x7.toInt = -9) ∨ (2 ≤ (((y2_3 : Int32).toNatClampNeg : Nat) : Int) ∧ (((y2_3 : Int32).toNatClampNeg : Nat) : Int) ≤ 5 ∧ x7.toInt = 1) ∨ (6 ≤ (((y2_3 : Int32).toNatClampNeg : Nat) : Int) ∧ 0 ≤ x7.toInt ∧ x7.toInt ≤ 23 ∧ x7.toInt < (((y2_3 : Int32).toNatClampNeg : Nat) : Int)) := by rw [ex7]; exact hI.2 3 _
          have rc7 : (((y2_3 : Int32).toNatClampNeg : Nat) : Int) = (y2_3 : Int32).toInt := cl_nn (by have h9 : y2_3.toInt = y2_3.toInt := rfl; omega)
          refine lv_istore_n (lv' := [(3, .int x7), (0, .ref o), (1, .int w), (2, .int k)]) hx hb dX12_isOf_24 rfl hl (by decide +kernel) rfl (fun ls hl => ?_)
          refine lv_goto (tgt := 7) hx hb dX12_isOf_25 (by decide +kernel) ?_
          exact ih2 x7 (show x7.toInt = -9 ∨ (0 ≤ x7.toInt ∧ x7.toInt ≤ 23) from by omega) (show Ch (kF (c 3)) (c 6 w.toInt.toNat).toInt k.toInt ↔ Ch (kF (c 3)) x7.toInt k.toInt from hz2_0.trans (by rw [Ch_nx (f := kF (c 3)) (x := y2_3.toInt) (by omega), kF_at (by omega) ex7])) (by omega) _ _ _ hP hS (lv_sub hl [0, 1, 2, 3] rfl)
  exact lp2 _ x1 (show x1.toInt = -9 ∨ (0 ≤ x1.toInt ∧ x1.toInt ≤ 23) from by omega) (show Ch (kF (c 3)) (c 6 w.toInt.toNat).toInt k.toInt ↔ Ch (kF (c 3)) x1.toInt k.toInt from by rw [ex1]; exact Iff.rfl) (Nat.lt_succ_self _) _ _ _ hP hS (lv_sub hl [0, 1, 2, 3] rfl)

def wm_X12_isMovable : List Cond := .code yX12_isMovable cX12_isMovable 2 (some .boolean) :: (([.methodLink RX12 184 yX12_isOf, .instanceMethod yX12_isOf, .selects RX12 yX12_isOf yX12_isOf, .initialized RX12, .code yX12_isOf cX12_isOf 4 (some .boolean), .fieldLink RX12 19 "TalePlayModel" "kindOf" "[I", .fieldLink RX12 13 "TalePlayModel" "parentOf" "[I"] : List Cond) ++ wsX120)
set_option maxRecDepth 20000 in
theorem gm_X12_isMovable_X12_isOf : GoodIn wm_X12_isMovable (wsV RX12 184 RX12 yX12_isOf wm_X12_isOf) := goodIn_w (List.forall_mem_append.mpr ⟨List.forall_mem_cons.mpr ⟨List.mem_cons_of_mem _ (List.mem_append_left _ (List.mem_of_getElem? (i := 0) rfl)), List.forall_mem_cons.mpr ⟨List.mem_cons_of_mem _ (List.mem_append_left _ (List.mem_of_getElem? (i := 1) rfl)), List.forall_mem_cons.mpr ⟨List.mem_cons_of_mem _ (List.mem_append_left _ (List.mem_of_getElem? (i := 2) rfl)), List.forall_mem_cons.mpr ⟨List.mem_cons_of_mem _ (List.mem_append_left _ (List.mem_of_getElem? (i := 3) rfl)), (fun _ h => absurd h List.not_mem_nil)⟩⟩⟩⟩, List.forall_mem_cons.mpr ⟨List.mem_cons_of_mem _ (List.mem_append_left _ (List.mem_of_getElem? (i := 4) rfl)), List.forall_mem_append.mpr ⟨List.forall_mem_cons.mpr ⟨List.mem_cons_of_mem _ (List.mem_append_left _ (List.mem_of_getElem? (i := 5) rfl)), List.forall_mem_cons.mpr ⟨List.mem_cons_of_mem _ (List.mem_append_left _ (List.mem_of_getElem? (i := 6) rfl)), (fun _ h => absurd h List.not_mem_nil)⟩⟩, (fun _ h => List.mem_cons_of_mem _ (List.mem_append_right _ h))⟩⟩⟩) (by decide +kernel)
set_option maxHeartbeats 4000000 in
set_option maxRecDepth 100000 in
theorem s_X12_isMovable (l : Launch) (D : va_G) (sz : Nat) (o : Nat) (a : Nat → Nat) (t : Nat → ClassId) (i : Nat → Int32) (q : Int64) (c : Nat → Nat → Int32) (d : Nat → Nat → Int64) (w : Int32) (hI : mInv i c) (hw : 0 ≤ w.toInt ∧ w.toInt ≤ 29) : Met l yX12_isMovable wm_X12_isMovable ({ frames := 1, cells := 0, slots := 0, locals := 23 }) (va_Pc [.ref o, .int w] (pA D sz (mW o a t i q c d) (mT t))) (va_Qi (fun (r : Int32) (_ : Unit) => ((0 ≤ r.toInt ∧ r.toInt ≤ 1) ∧ (Im (r.toInt = 1) (Kd (c 3) (c 6) w.toInt 1)))) oA (ro sz)) 0 0 (ro sz) := by
  refine Met.ofW (cc := cX12_isMovable) (maxL := 2) (ret := (some .boolean)) (by decide +kernel) rfl ?_
  intro p e s m args below meth cd s₁ B hml hv
  obtain ⟨rfl, hsz, hP, hK⟩ := hv
  have hx := B.exec
  have hb := B.bytes
  have hr := B.returns
  have hts := atoms_spec (ws := wm_X12_isMovable) B.pre
  have hown : s.vm.findClass RX12 = some m.cls := findClass_of_methodNamed B.named
  have hlocks := B.notSynchronized
  subst hsz
  have hA : ∀ q : Nat, s.heap.size ≤ q → ro s.heap.size q := fun _ h => h
  have hS : va_S (ro s.heap.size) s.heap s.heap [] := va_S.rf
  have hl := lv_entry ([.ref o, .int w]) (n := 2) (Nat.le_of_ble_eq_true rfl)
  rw [lg_entry_eq]
  generalize (lg_sl ([.ref o, .int w]) ++ List.replicate (2 - (lg_sl ([.ref o, .int w])).length) Slot.unset).toArray = ls at hl ⊢
  have hl : lv_has ls 2 [(0, .ref o), (1, .int w)] := hl
  refine lv_aload_n hx hb dX12_isMovable_0 rfl (lv_at hl 0 rfl) ?_
  refine lv_iload_n hx hb dX12_isMovable_1 rfl (lv_at hl 1 rfl) ?_
  refine lv_iconst (v := 1) hx hb dX12_isMovable_2 (by decide +kernel) ?_
  refine ro_calli (va_runV (As := [.int w, .int 1]) (rest := []) ⟨hx, hb, hml, hown, hts⟩ (s_X12_isOf l D s.heap.size o a t i q c d w 1 hI (show 0 ≤ w.toInt ∧ w.toInt ≤ 29 from by have h91 : (1 : Int32).toInt = 1 := (by decide +kernel); omega) (show 0 ≤ 1 from by decide +kernel)) (cwV 2 hts gm_X12_isMovable_X12_isOf rfl rfl rfl (by decide +kernel) ⟨Nat.le_of_ble_eq_true rfl, Nat.le_of_ble_eq_true rfl⟩) (pA_V hK hP (ci := 12) (q0 := 0) rfl rfl) rfl rfl hl.1 rfl (lv_room (Nat.le_of_ble_eq_true rfl)) dX12_isMovable_3 ⟨Nat.le_of_ble_eq_true rfl, Nat.le_of_ble_eq_true rfl⟩) hS hA hP (fun r1 u1 H locs hw1 hP hS => ?_)
  have hw1 : ((0 ≤ r1.toInt ∧ r1.toInt ≤ 1) ∧ (Sm r1 (Kd (c 3) (c 6) w.toInt 1))) := hw1
  obtain ⟨hw1, hr1_0⟩ := hw1
  have hr1_0 : Sm r1 (Kd (c 3) (c 6) w.toInt 1) := hr1_0
  refine lv_if_eq (tgt := 22) hx hb dX12_isMovable_6 (by decide +kernel) (fun c2 => ?_) (fun c2 => ?_)
  · have f2 := (ti_eq (a := r1.toInt) (b := 0) rfl (by decide +kernel)).mp c2
    have s2 := sm_f hr1_0 c2
    refine lv_iconst (v := 0) hx hb dX12_isMovable_22 (by decide +kernel) ?_
    exact ro_zret hx hb hr hlocks hS rfl dX12_isMovable_23 ⟨(show 0 ≤ (0 : Int32).toInt ∧ (0 : Int32).toInt ≤ 1 from by decide +kernel), (show Im ((0 : Int32).toInt = 1) (Kd (c 3) (c 6) w.toInt 1) from fun h9 => absurd h9 (by decide +kernel))⟩
  · have f2 := mt (ti_eq (a := r1.toInt) (b := 0) rfl (by decide +kernel)).mpr c2
    have s2 := sm_t hr1_0 c2
    refine lv_aload_n hx hb dX12_isMovable_9 rfl (lv_at hl 0 rfl) ?_
    refine lv_iload_n hx hb dX12_isMovable_10 rfl (lv_at hl 1 rfl) ?_
    refine lv_iconst (v := 2) hx hb dX12_isMovable_11 (by decide +kernel) ?_
    refine ro_calli (va_runV (As := [.int w, .int 2]) (rest := []) ⟨hx, hb, hml, hown, hts⟩ (s_X12_isOf l D H.size o a t i q c d w 2 hI (show 0 ≤ w.toInt ∧ w.toInt ≤ 29 from by have h91 : (2 : Int32).toInt = 2 := (by decide +kernel); omega) (show 0 ≤ 2 from by decide +kernel)) (cwV 2 hts gm_X12_isMovable_X12_isOf rfl rfl rfl (by decide +kernel) ⟨Nat.le_of_ble_eq_true rfl, Nat.le_of_ble_eq_true rfl⟩) (pA_V hK hP (ci := 12) (q0 := 0) rfl rfl) rfl rfl hl.1 rfl (lv_room (Nat.le_of_ble_eq_true rfl)) dX12_isMovable_12 ⟨Nat.le_of_ble_eq_true rfl, Nat.le_of_ble_eq_true rfl⟩) hS hA hP (fun r3 u3 H locs hw3 hP hS => ?_)
    have hw3 : ((0 ≤ r3.toInt ∧ r3.toInt ≤ 1) ∧ (Sm r3 (Kd (c 3) (c 6) w.toInt 2))) := hw3
    obtain ⟨hw3, hr3_0⟩ := hw3
    have hr3_0 : Sm r3 (Kd (c 3) (c 6) w.toInt 2) := hr3_0
    refine lv_if_ne (tgt := 22) hx hb dX12_isMovable_15 (by decide +kernel) (fun c4 => ?_) (fun c4 => ?_)
    · have f4 := mt (ti_eq (a := r3.toInt) (b := 0) rfl (by decide +kernel)).mpr c4
      have s4 := sm_t hr3_0 c4
      refine lv_iconst (v := 0) hx hb dX12_isMovable_22 (by decide +kernel) ?_
      exact ro_zret hx hb hr hlocks hS rfl dX12_isMovable_23 ⟨(show 0 ≤ (0 : Int32).toInt ∧ (0 : Int32).toInt ≤ 1 from by decide +kernel), (show Im ((0 : Int32).toInt = 1) (Kd (c 3) (c 6) w.toInt 1) from fun h9 => absurd h9 (by decide +kernel))⟩
    · have f4 := (ti_eq (a := r3.toInt) (b := 0) rfl (by decide +kernel)).mp c4
      have s4 := sm_f hr3_0 c4
      refine lv_iconst (v := 1) hx hb dX12_isMovable_18 (by decide +kernel) ?_
      refine lv_goto (tgt := 23) hx hb dX12_isMovable_19 (by decide +kernel) ?_
      exact ro_zret hx hb hr hlocks hS rfl dX12_isMovable_23 ⟨(show 0 ≤ (1 : Int32).toInt ∧ (1 : Int32).toInt ≤ 1 from by decide +kernel), (show Im ((1 : Int32).toInt = 1) (Kd (c 3) (c 6) w.toInt 1) from fun _ => by assumption)⟩

def wm_X12_isGoods : List Cond := .code yX12_isGoods cX12_isGoods 2 (some .boolean) :: (([.methodLink RX12 188 yX12_isMovable, .instanceMethod yX12_isMovable, .selects RX12 yX12_isMovable yX12_isMovable, .initialized RX12, .code yX12_isMovable cX12_isMovable 2 (some .boolean), .methodLink RX12 184 yX12_isOf, .instanceMethod yX12_isOf, .selects RX12 yX12_isOf yX12_isOf, .code yX12_isOf cX12_isOf 4 (some .boolean), .fieldLink RX12 19 "TalePlayModel" "kindOf" "[I", .fieldLink RX12 13 "TalePlayModel" "parentOf" "[I"] : List Cond) ++ wsX120)
set_option maxRecDepth 20000 in
theorem gm_X12_isGoods_X12_isMovable : GoodIn wm_X12_isGoods (wsV RX12 188 RX12 yX12_isMovable wm_X12_isMovable) := goodIn_w (List.forall_mem_append.mpr ⟨List.forall_mem_cons.mpr ⟨List.mem_cons_of_mem _ (List.mem_append_left _ (List.mem_of_getElem? (i := 0) rfl)), List.forall_mem_cons.mpr ⟨List.mem_cons_of_mem _ (List.mem_append_left _ (List.mem_of_getElem? (i := 1) rfl)), List.forall_mem_cons.mpr ⟨List.mem_cons_of_mem _ (List.mem_append_left _ (List.mem_of_getElem? (i := 2) rfl)), List.forall_mem_cons.mpr ⟨List.mem_cons_of_mem _ (List.mem_append_left _ (List.mem_of_getElem? (i := 3) rfl)), (fun _ h => absurd h List.not_mem_nil)⟩⟩⟩⟩, List.forall_mem_cons.mpr ⟨List.mem_cons_of_mem _ (List.mem_append_left _ (List.mem_of_getElem? (i := 4) rfl)), List.forall_mem_append.mpr ⟨List.forall_mem_cons.mpr ⟨List.mem_cons_of_mem _ (List.mem_append_left _ (List.mem_of_getElem? (i := 5) rfl)), List.forall_mem_cons.mpr ⟨List.mem_cons_of_mem _ (List.mem_append_left _ (List.mem_of_getElem? (i := 6) rfl)), List.forall_mem_cons.mpr ⟨List.mem_cons_of_mem _ (List.mem_append_left _ (List.mem_of_getElem? (i := 7) rfl)), List.forall_mem_cons.mpr ⟨List.mem_cons_of_mem _ (List.mem_append_left _ (List.mem_of_getElem? (i := 3) rfl)), List.forall_mem_cons.mpr ⟨List.mem_cons_of_mem _ (List.mem_append_left _ (List.mem_of_getElem? (i := 8) rfl)), List.forall_mem_cons.mpr ⟨List.mem_cons_of_mem _ (List.mem_append_left _ (List.mem_of_getElem? (i := 9) rfl)), List.forall_mem_cons.mpr ⟨List.mem_cons_of_mem _ (List.mem_append_left _ (List.mem_of_getElem? (i := 10) rfl)), (fun _ h => absurd h List.not_mem_nil)⟩⟩⟩⟩⟩⟩⟩, (fun _ h => List.mem_cons_of_mem _ (List.mem_append_right _ h))⟩⟩⟩) (by decide +kernel)
set_option maxRecDepth 20000 in
theorem gm_X12_isGoods_X12_isOf : GoodIn wm_X12_isGoods (wsV RX12 184 RX12 yX12_isOf wm_X12_isOf) := goodIn_w (List.forall_mem_append.mpr ⟨List.forall_mem_cons.mpr ⟨List.mem_cons_of_mem _ (List.mem_append_left _ (List.mem_of_getElem? (i := 5) rfl)), List.forall_mem_cons.mpr ⟨List.mem_cons_of_mem _ (List.mem_append_left _ (List.mem_of_getElem? (i := 6) rfl)), List.forall_mem_cons.mpr ⟨List.mem_cons_of_mem _ (List.mem_append_left _ (List.mem_of_getElem? (i := 7) rfl)), List.forall_mem_cons.mpr ⟨List.mem_cons_of_mem _ (List.mem_append_left _ (List.mem_of_getElem? (i := 3) rfl)), (fun _ h => absurd h List.not_mem_nil)⟩⟩⟩⟩, List.forall_mem_cons.mpr ⟨List.mem_cons_of_mem _ (List.mem_append_left _ (List.mem_of_getElem? (i := 8) rfl)), List.forall_mem_append.mpr ⟨List.forall_mem_cons.mpr ⟨List.mem_cons_of_mem _ (List.mem_append_left _ (List.mem_of_getElem? (i := 9) rfl)), List.forall_mem_cons.mpr ⟨List.mem_cons_of_mem _ (List.mem_append_left _ (List.mem_of_getElem? (i := 10) rfl)), (fun _ h => absurd h List.not_mem_nil)⟩⟩, (fun _ h => List.mem_cons_of_mem _ (List.mem_append_right _ h))⟩⟩⟩) (by decide +kernel)
set_option maxHeartbeats 4000000 in
set_option maxRecDepth 100000 in
theorem s_X12_isGoods (l : Launch) (D : va_G) (sz : Nat) (o : Nat) (a : Nat → Nat) (t : Nat → ClassId) (i : Nat → Int32) (q : Int64) (c : Nat → Nat → Int32) (d : Nat → Nat → Int64) (w : Int32) (hI : mInv i c) (hw : 0 ≤ w.toInt ∧ w.toInt ≤ 29) : Met l yX12_isGoods wm_X12_isGoods ({ frames := 2, cells := 0, slots := 0, locals := 44 }) (va_Pc [.ref o, .int w] (pA D sz (mW o a t i q c d) (mT t))) (va_Qi (fun (r : Int32) (_ : Unit) => ((0 ≤ r.toInt ∧ r.toInt ≤ 1) ∧ (Im (r.toInt = 1) (Kd (c 3) (c 6) w.toInt 1)))) oA (ro sz)) 0 0 (ro sz) := by
  refine Met.ofW (cc := cX12_isGoods) (maxL := 2) (ret := (some .boolean)) (by decide +kernel) rfl ?_
  intro p e s m args below meth cd s₁ B hml hv
  obtain ⟨rfl, hsz, hP, hK⟩ := hv
  have hx := B.exec
  have hb := B.bytes
  have hr := B.returns
  have hts := atoms_spec (ws := wm_X12_isGoods) B.pre
  have hown : s.vm.findClass RX12 = some m.cls := findClass_of_methodNamed B.named
  have hlocks := B.notSynchronized
  subst hsz
  have hA : ∀ q : Nat, s.heap.size ≤ q → ro s.heap.size q := fun _ h => h
  have hS : va_S (ro s.heap.size) s.heap s.heap [] := va_S.rf
  have hl := lv_entry ([.ref o, .int w]) (n := 2) (Nat.le_of_ble_eq_true rfl)
  rw [lg_entry_eq]
  generalize (lg_sl ([.ref o, .int w]) ++ List.replicate (2 - (lg_sl ([.ref o, .int w])).length) Slot.unset).toArray = ls at hl ⊢
  have hl : lv_has ls 2 [(0, .ref o), (1, .int w)] := hl
  refine lv_aload_n hx hb dX12_isGoods_0 rfl (lv_at hl 0 rfl) ?_
  refine lv_iload_n hx hb dX12_isGoods_1 rfl (lv_at hl 1 rfl) ?_
  refine ro_calli (va_runV (As := [.int w]) (rest := []) ⟨hx, hb, hml, hown, hts⟩ (s_X12_isMovable l D s.heap.size o a t i q c d w hI (show 0 ≤ w.toInt ∧ w.toInt ≤ 29 from by omega)) (cwV 1 hts gm_X12_isGoods_X12_isMovable rfl rfl rfl (by decide +kernel) ⟨Nat.le_of_ble_eq_true rfl, Nat.le_of_ble_eq_true rfl⟩) (pA_V hK hP (ci := 12) (q0 := 0) rfl rfl) rfl rfl hl.1 rfl (lv_room (Nat.le_of_ble_eq_true rfl)) dX12_isGoods_2 ⟨Nat.le_of_ble_eq_true rfl, Nat.le_of_ble_eq_true rfl⟩) hS hA hP (fun r1 u1 H locs hw1 hP hS => ?_)
  have hw1 : ((0 ≤ r1.toInt ∧ r1.toInt ≤ 1) ∧ (Im (r1.toInt = 1) (Kd (c 3) (c 6) w.toInt 1))) := hw1
  obtain ⟨hw1, hr1_0⟩ := hw1
  have hr1_0 : Im (r1.toInt = 1) (Kd (c 3) (c 6) w.toInt 1) := hr1_0
  refine lv_if_eq (tgt := 21) hx hb dX12_isGoods_5 (by decide +kernel) (fun c2 => ?_) (fun c2 => ?_)
  · have f2 := (ti_eq (a := r1.toInt) (b := 0) rfl (by decide +kernel)).mp c2
    refine lv_iconst (v := 0) hx hb dX12_isGoods_21 (by decide +kernel) ?_
    exact ro_zret hx hb hr hlocks hS rfl dX12_isGoods_22 ⟨(show 0 ≤ (0 : Int32).toInt ∧ (0 : Int32).toInt ≤ 1 from by decide +kernel), (show Im ((0 : Int32).toInt = 1) (Kd (c 3) (c 6) w.toInt 1) from fun h9 => absurd h9 (by decide +kernel))⟩
  · have f2 := mt (ti_eq (a := r1.toInt) (b := 0) rfl (by decide +kernel)).mpr c2
    refine lv_aload_n hx hb dX12_isGoods_8 rfl (lv_at hl 0 rfl) ?_
    refine lv_iload_n hx hb dX12_isGoods_9 rfl (lv_at hl 1 rfl) ?_
    refine lv_iconst (v := 5) hx hb dX12_isGoods_10 (by decide +kernel) ?_
    refine ro_calli (va_runV (As := [.int w, .int 5]) (rest := []) ⟨hx, hb, hml, hown, hts⟩ (s_X12_isOf l D H.size o a t i q c d w 5 hI (show 0 ≤ w.toInt ∧ w.toInt ≤ 29 from by have h91 : (5 : Int32).toInt = 5 := (by decide +kernel); omega) (show 0 ≤ 5 from by decide +kernel)) (cwV 2 hts gm_X12_isGoods_X12_isOf rfl rfl rfl (by decide +kernel) ⟨Nat.le_of_ble_eq_true rfl, Nat.le_of_ble_eq_true rfl⟩) (pA_V hK hP (ci := 12) (q0 := 0) rfl rfl) rfl rfl hl.1 rfl (lv_room (Nat.le_of_ble_eq_true rfl)) dX12_isGoods_11 ⟨Nat.le_of_ble_eq_true rfl, Nat.le_of_ble_eq_true rfl⟩) hS hA hP (fun r3 u3 H locs hw3 hP hS => ?_)
    have hw3 : ((0 ≤ r3.toInt ∧ r3.toInt ≤ 1) ∧ (Sm r3 (Kd (c 3) (c 6) w.toInt 5))) := hw3
    obtain ⟨hw3, hr3_0⟩ := hw3
    have hr3_0 : Sm r3 (Kd (c 3) (c 6) w.toInt 5) := hr3_0
    refine lv_if_ne (tgt := 21) hx hb dX12_isGoods_14 (by decide +kernel) (fun c4 => ?_) (fun c4 => ?_)
    · have f4 := mt (ti_eq (a := r3.toInt) (b := 0) rfl (by decide +kernel)).mpr c4
      have s4 := sm_t hr3_0 c4
      refine lv_iconst (v := 0) hx hb dX12_isGoods_21 (by decide +kernel) ?_
      exact ro_zret hx hb hr hlocks hS rfl dX12_isGoods_22 ⟨(show 0 ≤ (0 : Int32).toInt ∧ (0 : Int32).toInt ≤ 1 from by decide +kernel), (show Im ((0 : Int32).toInt = 1) (Kd (c 3) (c 6) w.toInt 1) from fun h9 => absurd h9 (by decide +kernel))⟩
    · have f4 := (ti_eq (a := r3.toInt) (b := 0) rfl (by decide +kernel)).mp c4
      have s4 := sm_f hr3_0 c4
      refine lv_iconst (v := 1) hx hb dX12_isGoods_17 (by decide +kernel) ?_
      refine lv_goto (tgt := 22) hx hb dX12_isGoods_18 (by decide +kernel) ?_
      exact ro_zret hx hb hr hlocks hS rfl dX12_isGoods_22 ⟨(show 0 ≤ (1 : Int32).toInt ∧ (1 : Int32).toInt ≤ 1 from by decide +kernel), (show Im ((1 : Int32).toInt = 1) (Kd (c 3) (c 6) w.toInt 1) from fun _ => by have h9 : Kd (c 3) (c 6) w.toInt 1 := hr1_0 (by omega); exact h9)⟩

def wm_X12_isShutter : List Cond := .code yX12_isShutter cX12_isShutter 2 (some .boolean) :: (([.methodLink RX12 184 yX12_isOf, .instanceMethod yX12_isOf, .selects RX12 yX12_isOf yX12_isOf, .initialized RX12, .code yX12_isOf cX12_isOf 4 (some .boolean), .fieldLink RX12 19 "TalePlayModel" "kindOf" "[I", .fieldLink RX12 13 "TalePlayModel" "parentOf" "[I"] : List Cond) ++ wsX120)
set_option maxRecDepth 20000 in
theorem gm_X12_isShutter_X12_isOf : GoodIn wm_X12_isShutter (wsV RX12 184 RX12 yX12_isOf wm_X12_isOf) := goodIn_w (List.forall_mem_append.mpr ⟨List.forall_mem_cons.mpr ⟨List.mem_cons_of_mem _ (List.mem_append_left _ (List.mem_of_getElem? (i := 0) rfl)), List.forall_mem_cons.mpr ⟨List.mem_cons_of_mem _ (List.mem_append_left _ (List.mem_of_getElem? (i := 1) rfl)), List.forall_mem_cons.mpr ⟨List.mem_cons_of_mem _ (List.mem_append_left _ (List.mem_of_getElem? (i := 2) rfl)), List.forall_mem_cons.mpr ⟨List.mem_cons_of_mem _ (List.mem_append_left _ (List.mem_of_getElem? (i := 3) rfl)), (fun _ h => absurd h List.not_mem_nil)⟩⟩⟩⟩, List.forall_mem_cons.mpr ⟨List.mem_cons_of_mem _ (List.mem_append_left _ (List.mem_of_getElem? (i := 4) rfl)), List.forall_mem_append.mpr ⟨List.forall_mem_cons.mpr ⟨List.mem_cons_of_mem _ (List.mem_append_left _ (List.mem_of_getElem? (i := 5) rfl)), List.forall_mem_cons.mpr ⟨List.mem_cons_of_mem _ (List.mem_append_left _ (List.mem_of_getElem? (i := 6) rfl)), (fun _ h => absurd h List.not_mem_nil)⟩⟩, (fun _ h => List.mem_cons_of_mem _ (List.mem_append_right _ h))⟩⟩⟩) (by decide +kernel)
set_option maxHeartbeats 4000000 in
set_option maxRecDepth 100000 in
theorem s_X12_isShutter (l : Launch) (D : va_G) (sz : Nat) (o : Nat) (a : Nat → Nat) (t : Nat → ClassId) (i : Nat → Int32) (q : Int64) (c : Nat → Nat → Int32) (d : Nat → Nat → Int64) (w : Int32) (hI : mInv i c) (hw : 0 ≤ w.toInt ∧ w.toInt ≤ 29) : Met l yX12_isShutter wm_X12_isShutter ({ frames := 1, cells := 0, slots := 0, locals := 23 }) (va_Pc [.ref o, .int w] (pA D sz (mW o a t i q c d) (mT t))) (va_Qi (fun (r : Int32) (_ : Unit) => (0 ≤ r.toInt ∧ r.toInt ≤ 1)) oA (ro sz)) 0 0 (ro sz) := by
  refine Met.ofW (cc := cX12_isShutter) (maxL := 2) (ret := (some .boolean)) (by decide +kernel) rfl ?_
  intro p e s m args below meth cd s₁ B hml hv
  obtain ⟨rfl, hsz, hP, hK⟩ := hv
  have hx := B.exec
  have hb := B.bytes
  have hr := B.returns
  have hts := atoms_spec (ws := wm_X12_isShutter) B.pre
  have hown : s.vm.findClass RX12 = some m.cls := findClass_of_methodNamed B.named
  have hlocks := B.notSynchronized
  subst hsz
  have hA : ∀ q : Nat, s.heap.size ≤ q → ro s.heap.size q := fun _ h => h
  have hS : va_S (ro s.heap.size) s.heap s.heap [] := va_S.rf
  have hl := lv_entry ([.ref o, .int w]) (n := 2) (Nat.le_of_ble_eq_true rfl)
  rw [lg_entry_eq]
  generalize (lg_sl ([.ref o, .int w]) ++ List.replicate (2 - (lg_sl ([.ref o, .int w])).length) Slot.unset).toArray = ls at hl ⊢
  have hl : lv_has ls 2 [(0, .ref o), (1, .int w)] := hl
  refine lv_aload_n hx hb dX12_isShutter_0 rfl (lv_at hl 0 rfl) ?_
  refine lv_iload_n hx hb dX12_isShutter_1 rfl (lv_at hl 1 rfl) ?_
  refine lv_iconst (v := 2) hx hb dX12_isShutter_2 (by decide +kernel) ?_
  refine ro_calli (va_runV (As := [.int w, .int 2]) (rest := []) ⟨hx, hb, hml, hown, hts⟩ (s_X12_isOf l D s.heap.size o a t i q c d w 2 hI (show 0 ≤ w.toInt ∧ w.toInt ≤ 29 from by have h91 : (2 : Int32).toInt = 2 := (by decide +kernel); omega) (show 0 ≤ 2 from by decide +kernel)) (cwV 2 hts gm_X12_isShutter_X12_isOf rfl rfl rfl (by decide +kernel) ⟨Nat.le_of_ble_eq_true rfl, Nat.le_of_ble_eq_true rfl⟩) (pA_V hK hP (ci := 12) (q0 := 0) rfl rfl) rfl rfl hl.1 rfl (lv_room (Nat.le_of_ble_eq_true rfl)) dX12_isShutter_3 ⟨Nat.le_of_ble_eq_true rfl, Nat.le_of_ble_eq_true rfl⟩) hS hA hP (fun r1 u1 H locs hw1 hP hS => ?_)
  have hw1 : ((0 ≤ r1.toInt ∧ r1.toInt ≤ 1) ∧ (Sm r1 (Kd (c 3) (c 6) w.toInt 2))) := hw1
  obtain ⟨hw1, hr1_0⟩ := hw1
  have hr1_0 : Sm r1 (Kd (c 3) (c 6) w.toInt 2) := hr1_0
  refine lv_if_ne (tgt := 18) hx hb dX12_isShutter_6 (by decide +kernel) (fun c2 => ?_) (fun c2 => ?_)
  · have f2 := mt (ti_eq (a := r1.toInt) (b := 0) rfl (by decide +kernel)).mpr c2
    have s2 := sm_t hr1_0 c2
    refine lv_iconst (v := 1) hx hb dX12_isShutter_18 (by decide +kernel) ?_
    refine lv_goto (tgt := 23) hx hb dX12_isShutter_19 (by decide +kernel) ?_
    exact ro_zret hx hb hr hlocks hS rfl dX12_isShutter_23 (show 0 ≤ (1 : Int32).toInt ∧ (1 : Int32).toInt ≤ 1 from by decide +kernel)
  · have f2 := (ti_eq (a := r1.toInt) (b := 0) rfl (by decide +kernel)).mp c2
    have s2 := sm_f hr1_0 c2
    refine lv_aload_n hx hb dX12_isShutter_9 rfl (lv_at hl 0 rfl) ?_
    refine lv_iload_n hx hb dX12_isShutter_10 rfl (lv_at hl 1 rfl) ?_
    refine lv_iconst (v := 3) hx hb dX12_isShutter_11 (by decide +kernel) ?_
    refine ro_calli (va_runV (As := [.int w, .int 3]) (rest := []) ⟨hx, hb, hml, hown, hts⟩ (s_X12_isOf l D H.size o a t i q c d w 3 hI (show 0 ≤ w.toInt ∧ w.toInt ≤ 29 from by have h91 : (3 : Int32).toInt = 3 := (by decide +kernel); omega) (show 0 ≤ 3 from by decide +kernel)) (cwV 2 hts gm_X12_isShutter_X12_isOf rfl rfl rfl (by decide +kernel) ⟨Nat.le_of_ble_eq_true rfl, Nat.le_of_ble_eq_true rfl⟩) (pA_V hK hP (ci := 12) (q0 := 0) rfl rfl) rfl rfl hl.1 rfl (lv_room (Nat.le_of_ble_eq_true rfl)) dX12_isShutter_12 ⟨Nat.le_of_ble_eq_true rfl, Nat.le_of_ble_eq_true rfl⟩) hS hA hP (fun r3 u3 H locs hw3 hP hS => ?_)
    have hw3 : ((0 ≤ r3.toInt ∧ r3.toInt ≤ 1) ∧ (Sm r3 (Kd (c 3) (c 6) w.toInt 3))) := hw3
    obtain ⟨hw3, hr3_0⟩ := hw3
    have hr3_0 : Sm r3 (Kd (c 3) (c 6) w.toInt 3) := hr3_0
    refine lv_if_eq (tgt := 22) hx hb dX12_isShutter_15 (by decide +kernel) (fun c4 => ?_) (fun c4 => ?_)
    · have f4 := (ti_eq (a := r3.toInt) (b := 0) rfl (by decide +kernel)).mp c4
      have s4 := sm_f hr3_0 c4
      refine lv_iconst (v := 0) hx hb dX12_isShutter_22 (by decide +kernel) ?_
      exact ro_zret hx hb hr hlocks hS rfl dX12_isShutter_23 (show 0 ≤ (0 : Int32).toInt ∧ (0 : Int32).toInt ≤ 1 from by decide +kernel)
    · have f4 := mt (ti_eq (a := r3.toInt) (b := 0) rfl (by decide +kernel)).mpr c4
      have s4 := sm_t hr3_0 c4
      refine lv_iconst (v := 1) hx hb dX12_isShutter_18 (by decide +kernel) ?_
      refine lv_goto (tgt := 23) hx hb dX12_isShutter_19 (by decide +kernel) ?_
      exact ro_zret hx hb hr hlocks hS rfl dX12_isShutter_23 (show 0 ≤ (1 : Int32).toInt ∧ (1 : Int32).toInt ≤ 1 from by decide +kernel)

def wm_X12_mayHave : List Cond := .code yX12_mayHave cX12_mayHave 3 (some .boolean) :: ((([.methodLink RX12 184 yX12_isOf, .instanceMethod yX12_isOf, .selects RX12 yX12_isOf yX12_isOf, .initialized RX12, .code yX12_isOf cX12_isOf 4 (some .boolean), .fieldLink RX12 19 "TalePlayModel" "kindOf" "[I", .fieldLink RX12 13 "TalePlayModel" "parentOf" "[I", .methodLink RX12 191 yX12_isShutter, .instanceMethod yX12_isShutter, .selects RX12 yX12_isShutter yX12_isShutter, .code yX12_isShutter cX12_isShutter 2 (some .boolean), .methodLink RX12 188 yX12_isMovable, .instanceMethod yX12_isMovable, .selects RX12 yX12_isMovable yX12_isMovable, .code yX12_isMovable cX12_isMovable 2 (some .boolean), .methodLink RX12 194 yX12_isGoods] : List Cond) ++ ([.instanceMethod yX12_isGoods, .selects RX12 yX12_isGoods yX12_isGoods, .code yX12_isGoods cX12_isGoods 2 (some .boolean)] : List Cond)) ++ wsX120)
set_option maxRecDepth 20000 in
theorem gm_X12_mayHave_X12_isOf : GoodIn wm_X12_mayHave (wsV RX12 184 RX12 yX12_isOf wm_X12_isOf) := goodIn_w (List.forall_mem_append.mpr ⟨List.forall_mem_cons.mpr ⟨List.mem_cons_of_mem _ (List.mem_append_left _ (List.mem_append_left _ (List.mem_of_getElem? (i := 0) rfl))), List.forall_mem_cons.mpr ⟨List.mem_cons_of_mem _ (List.mem_append_left _ (List.mem_append_left _ (List.mem_of_getElem? (i := 1) rfl))), List.forall_mem_cons.mpr ⟨List.mem_cons_of_mem _ (List.mem_append_left _ (List.mem_append_left _ (List.mem_of_getElem? (i := 2) rfl))), List.forall_mem_cons.mpr ⟨List.mem_cons_of_mem _ (List.mem_append_left _ (List.mem_append_left _ (List.mem_of_getElem? (i := 3) rfl))), (fun _ h => absurd h List.not_mem_nil)⟩⟩⟩⟩, List.forall_mem_cons.mpr ⟨List.mem_cons_of_mem _ (List.mem_append_left _ (List.mem_append_left _ (List.mem_of_getElem? (i := 4) rfl))), List.forall_mem_append.mpr ⟨List.forall_mem_cons.mpr ⟨List.mem_cons_of_mem _ (List.mem_append_left _ (List.mem_append_left _ (List.mem_of_getElem? (i := 5) rfl))), List.forall_mem_cons.mpr ⟨List.mem_cons_of_mem _ (List.mem_append_left _ (List.mem_append_left _ (List.mem_of_getElem? (i := 6) rfl))), (fun _ h => absurd h List.not_mem_nil)⟩⟩, (fun _ h => List.mem_cons_of_mem _ (List.mem_append_right _ h))⟩⟩⟩) (by decide +kernel)
set_option maxRecDepth 20000 in
theorem gm_X12_mayHave_X12_isShutter : GoodIn wm_X12_mayHave (wsV RX12 191 RX12 yX12_isShutter wm_X12_isShutter) := goodIn_w (List.forall_mem_append.mpr ⟨List.forall_mem_cons.mpr ⟨List.mem_cons_of_mem _ (List.mem_append_left _ (List.mem_append_left _ (List.mem_of_getElem? (i := 7) rfl))), List.forall_mem_cons.mpr ⟨List.mem_cons_of_mem _ (List.mem_append_left _ (List.mem_append_left _ (List.mem_of_getElem? (i := 8) rfl))), List.forall_mem_cons.mpr ⟨List.mem_cons_of_mem _ (List.mem_append_left _ (List.mem_append_left _ (List.mem_of_getElem? (i := 9) rfl))), List.forall_mem_cons.mpr ⟨List.mem_cons_of_mem _ (List.mem_append_left _ (List.mem_append_left _ (List.mem_of_getElem? (i := 3) rfl))), (fun _ h => absurd h List.not_mem_nil)⟩⟩⟩⟩, List.forall_mem_cons.mpr ⟨List.mem_cons_of_mem _ (List.mem_append_left _ (List.mem_append_left _ (List.mem_of_getElem? (i := 10) rfl))), List.forall_mem_append.mpr ⟨List.forall_mem_cons.mpr ⟨List.mem_cons_of_mem _ (List.mem_append_left _ (List.mem_append_left _ (List.mem_of_getElem? (i := 0) rfl))), List.forall_mem_cons.mpr ⟨List.mem_cons_of_mem _ (List.mem_append_left _ (List.mem_append_left _ (List.mem_of_getElem? (i := 1) rfl))), List.forall_mem_cons.mpr ⟨List.mem_cons_of_mem _ (List.mem_append_left _ (List.mem_append_left _ (List.mem_of_getElem? (i := 2) rfl))), List.forall_mem_cons.mpr ⟨List.mem_cons_of_mem _ (List.mem_append_left _ (List.mem_append_left _ (List.mem_of_getElem? (i := 3) rfl))), List.forall_mem_cons.mpr ⟨List.mem_cons_of_mem _ (List.mem_append_left _ (List.mem_append_left _ (List.mem_of_getElem? (i := 4) rfl))), List.forall_mem_cons.mpr ⟨List.mem_cons_of_mem _ (List.mem_append_left _ (List.mem_append_left _ (List.mem_of_getElem? (i := 5) rfl))), List.forall_mem_cons.mpr ⟨List.mem_cons_of_mem _ (List.mem_append_left _ (List.mem_append_left _ (List.mem_of_getElem? (i := 6) rfl))), (fun _ h => absurd h List.not_mem_nil)⟩⟩⟩⟩⟩⟩⟩, (fun _ h => List.mem_cons_of_mem _ (List.mem_append_right _ h))⟩⟩⟩) (by decide +kernel)
set_option maxRecDepth 20000 in
theorem gm_X12_mayHave_X12_isMovable : GoodIn wm_X12_mayHave (wsV RX12 188 RX12 yX12_isMovable wm_X12_isMovable) := goodIn_w (List.forall_mem_append.mpr ⟨List.forall_mem_cons.mpr ⟨List.mem_cons_of_mem _ (List.mem_append_left _ (List.mem_append_left _ (List.mem_of_getElem? (i := 11) rfl))), List.forall_mem_cons.mpr ⟨List.mem_cons_of_mem _ (List.mem_append_left _ (List.mem_append_left _ (List.mem_of_getElem? (i := 12) rfl))), List.forall_mem_cons.mpr ⟨List.mem_cons_of_mem _ (List.mem_append_left _ (List.mem_append_left _ (List.mem_of_getElem? (i := 13) rfl))), List.forall_mem_cons.mpr ⟨List.mem_cons_of_mem _ (List.mem_append_left _ (List.mem_append_left _ (List.mem_of_getElem? (i := 3) rfl))), (fun _ h => absurd h List.not_mem_nil)⟩⟩⟩⟩, List.forall_mem_cons.mpr ⟨List.mem_cons_of_mem _ (List.mem_append_left _ (List.mem_append_left _ (List.mem_of_getElem? (i := 14) rfl))), List.forall_mem_append.mpr ⟨List.forall_mem_cons.mpr ⟨List.mem_cons_of_mem _ (List.mem_append_left _ (List.mem_append_left _ (List.mem_of_getElem? (i := 0) rfl))), List.forall_mem_cons.mpr ⟨List.mem_cons_of_mem _ (List.mem_append_left _ (List.mem_append_left _ (List.mem_of_getElem? (i := 1) rfl))), List.forall_mem_cons.mpr ⟨List.mem_cons_of_mem _ (List.mem_append_left _ (List.mem_append_left _ (List.mem_of_getElem? (i := 2) rfl))), List.forall_mem_cons.mpr ⟨List.mem_cons_of_mem _ (List.mem_append_left _ (List.mem_append_left _ (List.mem_of_getElem? (i := 3) rfl))), List.forall_mem_cons.mpr ⟨List.mem_cons_of_mem _ (List.mem_append_left _ (List.mem_append_left _ (List.mem_of_getElem? (i := 4) rfl))), List.forall_mem_cons.mpr ⟨List.mem_cons_of_mem _ (List.mem_append_left _ (List.mem_append_left _ (List.mem_of_getElem? (i := 5) rfl))), List.forall_mem_cons.mpr ⟨List.mem_cons_of_mem _ (List.mem_append_left _ (List.mem_append_left _ (List.mem_of_getElem? (i := 6) rfl))), (fun _ h => absurd h List.not_mem_nil)⟩⟩⟩⟩⟩⟩⟩, (fun _ h => List.mem_cons_of_mem _ (List.mem_append_right _ h))⟩⟩⟩) (by decide +kernel)
set_option maxRecDepth 20000 in
theorem gm_X12_mayHave_X12_isGoods : GoodIn wm_X12_mayHave (wsV RX12 194 RX12 yX12_isGoods wm_X12_isGoods) := goodIn_w (List.forall_mem_append.mpr ⟨List.forall_mem_cons.mpr ⟨List.mem_cons_of_mem _ (List.mem_append_left _ (List.mem_append_left _ (List.mem_of_getElem? (i := 15) rfl))), List.forall_mem_cons.mpr ⟨List.mem_cons_of_mem _ (List.mem_append_left _ (List.mem_append_right _ (List.mem_of_getElem? (i := 0) rfl))), List.forall_mem_cons.mpr ⟨List.mem_cons_of_mem _ (List.mem_append_left _ (List.mem_append_right _ (List.mem_of_getElem? (i := 1) rfl))), List.forall_mem_cons.mpr ⟨List.mem_cons_of_mem _ (List.mem_append_left _ (List.mem_append_left _ (List.mem_of_getElem? (i := 3) rfl))), (fun _ h => absurd h List.not_mem_nil)⟩⟩⟩⟩, List.forall_mem_cons.mpr ⟨List.mem_cons_of_mem _ (List.mem_append_left _ (List.mem_append_right _ (List.mem_of_getElem? (i := 2) rfl))), List.forall_mem_append.mpr ⟨List.forall_mem_cons.mpr ⟨List.mem_cons_of_mem _ (List.mem_append_left _ (List.mem_append_left _ (List.mem_of_getElem? (i := 11) rfl))), List.forall_mem_cons.mpr ⟨List.mem_cons_of_mem _ (List.mem_append_left _ (List.mem_append_left _ (List.mem_of_getElem? (i := 12) rfl))), List.forall_mem_cons.mpr ⟨List.mem_cons_of_mem _ (List.mem_append_left _ (List.mem_append_left _ (List.mem_of_getElem? (i := 13) rfl))), List.forall_mem_cons.mpr ⟨List.mem_cons_of_mem _ (List.mem_append_left _ (List.mem_append_left _ (List.mem_of_getElem? (i := 3) rfl))), List.forall_mem_cons.mpr ⟨List.mem_cons_of_mem _ (List.mem_append_left _ (List.mem_append_left _ (List.mem_of_getElem? (i := 14) rfl))), List.forall_mem_cons.mpr ⟨List.mem_cons_of_mem _ (List.mem_append_left _ (List.mem_append_left _ (List.mem_of_getElem? (i := 0) rfl))), List.forall_mem_cons.mpr ⟨List.mem_cons_of_mem _ (List.mem_append_left _ (List.mem_append_left _ (List.mem_of_getElem? (i := 1) rfl))), List.forall_mem_cons.mpr ⟨List.mem_cons_of_mem _ (List.mem_append_left _ (List.mem_append_left _ (List.mem_of_getElem? (i := 2) rfl))), List.forall_mem_cons.mpr ⟨List.mem_cons_of_mem _ (List.mem_append_left _ (List.mem_append_left _ (List.mem_of_getElem? (i := 4) rfl))), List.forall_mem_cons.mpr ⟨List.mem_cons_of_mem _ (List.mem_append_left _ (List.mem_append_left _ (List.mem_of_getElem? (i := 5) rfl))), List.forall_mem_cons.mpr ⟨List.mem_cons_of_mem _ (List.mem_append_left _ (List.mem_append_left _ (List.mem_of_getElem? (i := 6) rfl))), (fun _ h => absurd h List.not_mem_nil)⟩⟩⟩⟩⟩⟩⟩⟩⟩⟩⟩, (fun _ h => List.mem_cons_of_mem _ (List.mem_append_right _ h))⟩⟩⟩) (by decide +kernel)
set_option maxHeartbeats 4000000 in
set_option maxRecDepth 100000 in
theorem s_X12_mayHave (l : Launch) (D : va_G) (sz : Nat) (o : Nat) (a : Nat → Nat) (t : Nat → ClassId) (i : Nat → Int32) (q : Int64) (c : Nat → Nat → Int32) (d : Nat → Nat → Int64) (w : Int32) (f : Int32) (hI : mInv i c) (hw : 0 ≤ w.toInt ∧ w.toInt ≤ 29) : Met l yX12_mayHave wm_X12_mayHave ({ frames := 3, cells := 0, slots := 0, locals := 65 }) (va_Pc [.ref o, .int w, .int f] (pA D sz (mW o a t i q c d) (mT t))) (va_Qi (fun (r : Int32) (_ : Unit) => (0 ≤ r.toInt ∧ r.toInt ≤ 1)) oA (ro sz)) 0 0 (ro sz) := by
  refine Met.ofW (cc := cX12_mayHave) (maxL := 3) (ret := (some .boolean)) (by decide +kernel) rfl ?_
  intro p e s m args below meth cd s₁ B hml hv
  obtain ⟨rfl, hsz, hP, hK⟩ := hv
  have hx := B.exec
  have hb := B.bytes
  have hr := B.returns
  have hts := atoms_spec (ws := wm_X12_mayHave) B.pre
  have hown : s.vm.findClass RX12 = some m.cls := findClass_of_methodNamed B.named
  have hlocks := B.notSynchronized
  subst hsz
  have hA : ∀ q : Nat, s.heap.size ≤ q → ro s.heap.size q := fun _ h => h
  have hS : va_S (ro s.heap.size) s.heap s.heap [] := va_S.rf
  have hl := lv_entry ([.ref o, .int w, .int f]) (n := 3) (Nat.le_of_ble_eq_true rfl)
  rw [lg_entry_eq]
  generalize (lg_sl ([.ref o, .int w, .int f]) ++ List.replicate (3 - (lg_sl ([.ref o, .int w, .int f])).length) Slot.unset).toArray = ls at hl ⊢
  have hl : lv_has ls 3 [(0, .ref o), (1, .int w), (2, .int f)] := hl
  refine lv_iload_n hx hb dX12_mayHave_0 rfl (lv_at hl 2 rfl) ?_
  rcases (show (f.toInt < 0 ∨ 4 < f.toInt) ∨ f.toInt = 0 ∨ f.toInt = 1 ∨ f.toInt = 2 ∨ f.toInt = 3 ∨ f.toInt = 4 by omega) with f1 | f1 | f1 | f1 | f1 | f1
  · refine lv_tableOut (tgt := 56) hx hb dX12_mayHave_1 f1 (by decide +kernel) ?_
    refine lv_aload_n hx hb dX12_mayHave_56 rfl (lv_at hl 0 rfl) ?_
    refine lv_iload_n hx hb dX12_mayHave_57 rfl (lv_at hl 1 rfl) ?_
    refine lv_iconst (v := 3) hx hb dX12_mayHave_58 (by decide +kernel) ?_
    refine ro_calli (va_runV (As := [.int w, .int 3]) (rest := []) ⟨hx, hb, hml, hown, hts⟩ (s_X12_isOf l D s.heap.size o a t i q c d w 3 hI (show 0 ≤ w.toInt ∧ w.toInt ≤ 29 from by have h91 : (3 : Int32).toInt = 3 := (by decide +kernel); omega) (show 0 ≤ 3 from by decide +kernel)) (cwV 2 hts gm_X12_mayHave_X12_isOf rfl rfl rfl (by decide +kernel) ⟨Nat.le_of_ble_eq_true rfl, Nat.le_of_ble_eq_true rfl⟩) (pA_V hK hP (ci := 12) (q0 := 0) rfl rfl) rfl rfl hl.1 rfl (lv_room (Nat.le_of_ble_eq_true rfl)) dX12_mayHave_59 ⟨Nat.le_of_ble_eq_true rfl, Nat.le_of_ble_eq_true rfl⟩) hS hA hP (fun r2 u2 H locs hw2 hP hS => ?_)
    have hw2 : ((0 ≤ r2.toInt ∧ r2.toInt ≤ 1) ∧ (Sm r2 (Kd (c 3) (c 6) w.toInt 3))) := hw2
    obtain ⟨hw2, hr2_0⟩ := hw2
    have hr2_0 : Sm r2 (Kd (c 3) (c 6) w.toInt 3) := hr2_0
    exact ro_zret hx hb hr hlocks hS (nb_n (show 0 ≤ r2.toInt ∧ r2.toInt ≤ 1 from by omega)) dX12_mayHave_62 (show 0 ≤ r2.toInt ∧ r2.toInt ≤ 1 from by omega)
  · refine lv_tableIn (off := 35) (tgt := 36) hx hb dX12_mayHave_1 (by omega) (by omega) (by rw [f1]; rfl) (by decide +kernel) ?_
    refine lv_aload_n hx hb dX12_mayHave_36 rfl (lv_at hl 0 rfl) ?_
    refine lv_iload_n hx hb dX12_mayHave_37 rfl (lv_at hl 1 rfl) ?_
    refine ro_calli (va_runV (As := [.int w]) (rest := []) ⟨hx, hb, hml, hown, hts⟩ (s_X12_isShutter l D s.heap.size o a t i q c d w hI (show 0 ≤ w.toInt ∧ w.toInt ≤ 29 from by omega)) (cwV 1 hts gm_X12_mayHave_X12_isShutter rfl rfl rfl (by decide +kernel) ⟨Nat.le_of_ble_eq_true rfl, Nat.le_of_ble_eq_true rfl⟩) (pA_V hK hP (ci := 12) (q0 := 0) rfl rfl) rfl rfl hl.1 rfl (lv_room (Nat.le_of_ble_eq_true rfl)) dX12_mayHave_38 ⟨Nat.le_of_ble_eq_true rfl, Nat.le_of_ble_eq_true rfl⟩) hS hA hP (fun r3 u3 H locs hw3 hP hS => ?_)
    have hw3 : (0 ≤ r3.toInt ∧ r3.toInt ≤ 1) := hw3
    exact ro_zret hx hb hr hlocks hS (nb_n (show 0 ≤ r3.toInt ∧ r3.toInt ≤ 1 from by omega)) dX12_mayHave_41 (show 0 ≤ r3.toInt ∧ r3.toInt ≤ 1 from by omega)
  · refine lv_tableIn (off := 35) (tgt := 36) hx hb dX12_mayHave_1 (by omega) (by omega) (by rw [f1]; rfl) (by decide +kernel) ?_
    refine lv_aload_n hx hb dX12_mayHave_36 rfl (lv_at hl 0 rfl) ?_
    refine lv_iload_n hx hb dX12_mayHave_37 rfl (lv_at hl 1 rfl) ?_
    refine ro_calli (va_runV (As := [.int w]) (rest := []) ⟨hx, hb, hml, hown, hts⟩ (s_X12_isShutter l D s.heap.size o a t i q c d w hI (show 0 ≤ w.toInt ∧ w.toInt ≤ 29 from by omega)) (cwV 1 hts gm_X12_mayHave_X12_isShutter rfl rfl rfl (by decide +kernel) ⟨Nat.le_of_ble_eq_true rfl, Nat.le_of_ble_eq_true rfl⟩) (pA_V hK hP (ci := 12) (q0 := 0) rfl rfl) rfl rfl hl.1 rfl (lv_room (Nat.le_of_ble_eq_true rfl)) dX12_mayHave_38 ⟨Nat.le_of_ble_eq_true rfl, Nat.le_of_ble_eq_true rfl⟩) hS hA hP (fun r4 u4 H locs hw4 hP hS => ?_)
    have hw4 : (0 ≤ r4.toInt ∧ r4.toInt ≤ 1) := hw4
    exact ro_zret hx hb hr hlocks hS (nb_n (show 0 ≤ r4.toInt ∧ r4.toInt ≤ 1 from by omega)) dX12_mayHave_41 (show 0 ≤ r4.toInt ∧ r4.toInt ≤ 1 from by omega)
  · refine lv_tableIn (off := 41) (tgt := 42) hx hb dX12_mayHave_1 (by omega) (by omega) (by rw [f1]; rfl) (by decide +kernel) ?_
    refine lv_iconst (v := 1) hx hb dX12_mayHave_42 (by decide +kernel) ?_
    exact ro_zret hx hb hr hlocks hS rfl dX12_mayHave_43 (show 0 ≤ (1 : Int32).toInt ∧ (1 : Int32).toInt ≤ 1 from by decide +kernel)
  · refine lv_tableIn (off := 43) (tgt := 44) hx hb dX12_mayHave_1 (by omega) (by omega) (by rw [f1]; rfl) (by decide +kernel) ?_
    refine lv_aload_n hx hb dX12_mayHave_44 rfl (lv_at hl 0 rfl) ?_
    refine lv_iload_n hx hb dX12_mayHave_45 rfl (lv_at hl 1 rfl) ?_
    refine ro_calli (va_runV (As := [.int w]) (rest := []) ⟨hx, hb, hml, hown, hts⟩ (s_X12_isMovable l D s.heap.size o a t i q c d w hI (show 0 ≤ w.toInt ∧ w.toInt ≤ 29 from by omega)) (cwV 1 hts gm_X12_mayHave_X12_isMovable rfl rfl rfl (by decide +kernel) ⟨Nat.le_of_ble_eq_true rfl, Nat.le_of_ble_eq_true rfl⟩) (pA_V hK hP (ci := 12) (q0 := 0) rfl rfl) rfl rfl hl.1 rfl (lv_room (Nat.le_of_ble_eq_true rfl)) dX12_mayHave_46 ⟨Nat.le_of_ble_eq_true rfl, Nat.le_of_ble_eq_true rfl⟩) hS hA hP (fun r5 u5 H locs hw5 hP hS => ?_)
    have hw5 : ((0 ≤ r5.toInt ∧ r5.toInt ≤ 1) ∧ (Im (r5.toInt = 1) (Kd (c 3) (c 6) w.toInt 1))) := hw5
    obtain ⟨hw5, hr5_0⟩ := hw5
    have hr5_0 : Im (r5.toInt = 1) (Kd (c 3) (c 6) w.toInt 1) := hr5_0
    exact ro_zret hx hb hr hlocks hS (nb_n (show 0 ≤ r5.toInt ∧ r5.toInt ≤ 1 from by omega)) dX12_mayHave_49 (show 0 ≤ r5.toInt ∧ r5.toInt ≤ 1 from by omega)
  · refine lv_tableIn (off := 49) (tgt := 50) hx hb dX12_mayHave_1 (by omega) (by omega) (by rw [f1]; rfl) (by decide +kernel) ?_
    refine lv_aload_n hx hb dX12_mayHave_50 rfl (lv_at hl 0 rfl) ?_
    refine lv_iload_n hx hb dX12_mayHave_51 rfl (lv_at hl 1 rfl) ?_
    refine ro_calli (va_runV (As := [.int w]) (rest := []) ⟨hx, hb, hml, hown, hts⟩ (s_X12_isGoods l D s.heap.size o a t i q c d w hI (show 0 ≤ w.toInt ∧ w.toInt ≤ 29 from by omega)) (cwV 1 hts gm_X12_mayHave_X12_isGoods rfl rfl rfl (by decide +kernel) ⟨Nat.le_of_ble_eq_true rfl, Nat.le_of_ble_eq_true rfl⟩) (pA_V hK hP (ci := 12) (q0 := 0) rfl rfl) rfl rfl hl.1 rfl (lv_room (Nat.le_of_ble_eq_true rfl)) dX12_mayHave_52 ⟨Nat.le_of_ble_eq_true rfl, Nat.le_of_ble_eq_true rfl⟩) hS hA hP (fun r6 u6 H locs hw6 hP hS => ?_)
    have hw6 : ((0 ≤ r6.toInt ∧ r6.toInt ≤ 1) ∧ (Im (r6.toInt = 1) (Kd (c 3) (c 6) w.toInt 1))) := hw6
    obtain ⟨hw6, hr6_0⟩ := hw6
    have hr6_0 : Im (r6.toInt = 1) (Kd (c 3) (c 6) w.toInt 1) := hr6_0
    exact ro_zret hx hb hr hlocks hS (nb_n (show 0 ≤ r6.toInt ∧ r6.toInt ≤ 1 from by omega)) dX12_mayHave_55 (show 0 ≤ r6.toInt ∧ r6.toInt ≤ 1 from by omega)

