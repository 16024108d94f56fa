def wm_X12_areNumbers : List Cond := .code yX12_areNumbers cX12_areNumbers 5 (some .boolean) :: (([.methodLink RX12 180 yX12_isObject, .instanceMethod yX12_isObject, .selects RX12 yX12_isObject yX12_isObject, .initialized RX12, .code yX12_isObject cX12_isObject 2 (some .boolean), .fieldLink RX12 177 "TalePlayModel" "objects" "I", .methodLink RX12 166 yX12_in, .static yX12_in, .code yX12_in cX12_in 6 (some .boolean), .constantLong RX12 197 (9), .constantLong RX12 170 (5)] : List Cond) ++ wsX120)
set_option maxRecDepth 20000 in
theorem gm_X12_areNumbers_X12_isObject : GoodIn wm_X12_areNumbers (wsV RX12 180 RX12 yX12_isObject wm_X12_isObject) := goodIn_w (List.forall_mem_append.mpr ⟨List.forall_mem_cons.mpr ⟨List.mem_cons_of_mem _ (List.mem_append_left _ (List.mem_of_getElem? (i := 0) rfl)), List.forall_mem_cons.mpr ⟨List.mem_cons_of_mem _ (List.mem_append_left _ (List.mem_of_getElem? (i := 1) rfl)), List.forall_mem_cons.mpr ⟨List.mem_cons_of_mem _ (List.mem_append_left _ (List.mem_of_getElem? (i := 2) rfl)), List.forall_mem_cons.mpr ⟨List.mem_cons_of_mem _ (List.mem_append_left _ (List.mem_of_getElem? (i := 3) rfl)), (fun _ h => absurd h List.not_mem_nil)⟩⟩⟩⟩, List.forall_mem_cons.mpr ⟨List.mem_cons_of_mem _ (List.mem_append_left _ (List.mem_of_getElem? (i := 4) rfl)), List.forall_mem_append.mpr ⟨List.forall_mem_cons.mpr ⟨List.mem_cons_of_mem _ (List.mem_append_left _ (List.mem_of_getElem? (i := 5) rfl)), List.forall_mem_cons.mpr ⟨List.mem_cons_of_mem _ (List.mem_append_left _ (List.mem_of_getElem? (i := 6) rfl)), List.forall_mem_cons.mpr ⟨List.mem_cons_of_mem _ (List.mem_append_left _ (List.mem_of_getElem? (i := 7) rfl)), List.forall_mem_cons.mpr ⟨List.mem_cons_of_mem _ (List.mem_append_left _ (List.mem_of_getElem? (i := 3) rfl)), List.forall_mem_cons.mpr ⟨List.mem_cons_of_mem _ (List.mem_append_left _ (List.mem_of_getElem? (i := 8) rfl)), (fun _ h => absurd h List.not_mem_nil)⟩⟩⟩⟩⟩, (fun _ h => List.mem_cons_of_mem _ (List.mem_append_right _ h))⟩⟩⟩) (by decide +kernel)
set_option maxRecDepth 20000 in
theorem gm_X12_areNumbers_X12_in : GoodIn wm_X12_areNumbers (va_wsS RX12 166 yX12_in wm_X12_in) := goodIn_w (List.forall_mem_append.mpr ⟨List.forall_mem_cons.mpr ⟨List.mem_cons_of_mem _ (List.mem_append_left _ (List.mem_of_getElem? (i := 6) rfl)), List.forall_mem_cons.mpr ⟨List.mem_cons_of_mem _ (List.mem_append_left _ (List.mem_of_getElem? (i := 7) rfl)), List.forall_mem_cons.mpr ⟨List.mem_cons_of_mem _ (List.mem_append_left _ (List.mem_of_getElem? (i := 3) rfl)), (fun _ h => absurd h List.not_mem_nil)⟩⟩⟩, List.forall_mem_cons.mpr ⟨List.mem_cons_of_mem _ (List.mem_append_left _ (List.mem_of_getElem? (i := 8) rfl)), (fun _ h => absurd h List.not_mem_nil)⟩⟩) (by decide +kernel)
def wm_X12_clashes : List Cond := .code yX12_clashes cX12_clashes 2 none :: (([.fieldLink RX12 41 "TalePlayModel" "row" "[I", .fieldLink RX12 205 "TalePlayModel" "rowMany" "I"] : List Cond) ++ wsX120)
set_option maxHeartbeats 4000000 in
set_option maxRecDepth 100000 in
theorem s_X12_clashes (l : Launch) (D : va_G) (sz : Nat) (o : Nat) (a : Nat → Nat) (t : Nat → ClassId) (i : Nat → Int32) (q : Int64) (c : Nat → Nat → Int32) (d : Nat → Nat → Int64) (s1 : Int32) (hI : mInv i c) (hs1 : 0 ≤ s1.toInt ∧ s1.toInt ≤ 199) (hrm : (i 15).toInt ≤ 199) : Met l yX12_clashes wm_X12_clashes ({ frames := 0, cells := 0, slots := 0, locals := 0 }) (va_Pc [.ref o, .int s1] (pB D sz (mW o a t i q c d) (mT t))) (va_Qv (fun (u : MS) => True ∧ mInv u.1 u.2.2.1 ∧ (∀ k, k ∉ ([15] : List Nat) → u.1 k = i k) ∧ (∀ k, k ∉ ([14] : List Nat) → u.2.2.1 k = c k) ∧ ((u.1 15).toInt = (i 15).toInt + 1)) (oC D (va_A (mW o a t i q c d) sz) (fun u : MS => mW o a t u.1 u.2.1 u.2.2.1 u.2.2.2) (fun _ => [])) (va_A (mW o a t i q c d) sz)) 0 0 (va_A (mW o a t i q c d) sz) := by
  refine Met.ofW (cc := cX12_clashes) (maxL := 2) (ret := none) (by decide +kernel) rfl ?_
  intro p e s m args below meth cd s₁ B hml hv
  obtain ⟨rfl, hsz, hP, hK, hD0⟩ := hv
  have hx := B.exec
  have hb := B.bytes
  have hr := B.returns
  have hts := atoms_spec (ws := wm_X12_clashes) B.pre
  have hown : s.vm.findClass RX12 = some m.cls := findClass_of_methodNamed B.named
  have hlocks := B.notSynchronized
  subst hsz
  have hD := hD0.self (sz := s.heap.size)
  generalize hAe : va_A (mW o a t i q c d) s.heap.size = A at hD ⊢
  have hA : ∀ q : Nat, s.heap.size ≤ q → A q := fun q h => by rw [← hAe]; exact Or.inr h
  have hS : va_S A s.heap s.heap [] := va_S.rf
  have hfi : ∀ k, k ∉ ([] : List Nat) → i k = i k := fun _ _ => rfl
  have hfc : ∀ k, k ∉ ([] : List Nat) → c k = c k := fun _ _ => rfl
  have hl := lv_entry ([.ref o, .int s1]) (n := 2) (Nat.le_of_ble_eq_true rfl)
  rw [lg_entry_eq]
  generalize (lg_sl ([.ref o, .int s1]) ++ List.replicate (2 - (lg_sl ([.ref o, .int s1])).length) Slot.unset).toArray = ls at hl ⊢
  have hl : lv_has ls 2 [(0, .ref o), (1, .int s1)] := hl
  refine lv_aload_n hx hb dX12_clashes_0 rfl (lv_at hl 0 rfl) ?_
  refine mget_14 hx hb hts (fun _ h => List.mem_cons_of_mem _ (List.mem_append_right _ h)) hown hK hP (hts (.fieldLink RX12 41 "TalePlayModel" "row" "[I") (List.mem_cons_of_mem _ (List.mem_append_left _ (List.mem_of_getElem? (i := 0) rfl)))) dX12_clashes_1 ?_
  refine lv_aload_n hx hb dX12_clashes_4 rfl (lv_at hl 0 rfl) ?_
  refine mget_15 (v := (i 15)) rfl hx hb hts (fun _ h => List.mem_cons_of_mem _ (List.mem_append_right _ h)) hown hK hP (hts (.fieldLink RX12 205 "TalePlayModel" "rowMany" "I") (List.mem_cons_of_mem _ (List.mem_append_left _ (List.mem_of_getElem? (i := 1) rfl)))) dX12_clashes_5 ?_
  have rb15_i : 0 ≤ (i 15).toInt ∧ (i 15).toInt ≤ 200 := hI.1 15
  refine lv_iload_n hx hb dX12_clashes_8 rfl (lv_at hl 1 rfl) ?_
  refine mst_14 hx hb hK hP hD hS (vp_in_iff.mpr (by have h9 : (i 15).toInt = (i 15).toInt := rfl; omega)) dX12_clashes_9 (fun H locs hP hD hS => ?_)
  have hI := mInv_c hI (k := 14) (j := ((i 15) : Int32).toNatClampNeg) (x := s1) (show 0 ≤ (s1 : Int32).toInt ∧ (s1 : Int32).toInt ≤ 199 from by omega)
  have hfc : ∀ k, k ∉ ([14] : List Nat) → (updA c 14 ((i 15) : Int32).toNatClampNeg s1) k = c k := fr_cz hfc (by decide +kernel) (by decide +kernel)
  refine lv_aload_n hx hb dX12_clashes_10 rfl (lv_at hl 0 rfl) ?_
  refine lv_dup hx hb dX12_clashes_11 rfl ?_
  refine mget_15 (v := (i 15)) rfl hx hb hts (fun _ h => List.mem_cons_of_mem _ (List.mem_append_right _ h)) hown hK hP (hts (.fieldLink RX12 205 "TalePlayModel" "rowMany" "I") (List.mem_cons_of_mem _ (List.mem_append_left _ (List.mem_of_getElem? (i := 1) rfl)))) dX12_clashes_12 ?_
  refine lv_iconst (v := 1) hx hb dX12_clashes_15 (by decide +kernel) ?_
  refine lv_iadd hx hb dX12_clashes_16 ?_
  refine lv_topi (fun x1 ex1 => ?_)
  have tx1 := ti_add (a := (i 15).toInt) (b := 1) ex1 rfl (by decide +kernel) (by omega) (by omega)
  refine mput_15 hx hb hts (fun _ h => List.mem_cons_of_mem _ (List.mem_append_right _ h)) hown hK hP hD hS (hts (.fieldLink RX12 205 "TalePlayModel" "rowMany" "I") (List.mem_cons_of_mem _ (List.mem_append_left _ (List.mem_of_getElem? (i := 1) rfl)))) rfl rfl dX12_clashes_17 (fun H locs hP hD hS => ?_)
  have hI := mInv_i hI (k := 15) (v := x1) (show 0 ≤ (x1 : Int32).toInt ∧ (x1 : Int32).toInt ≤ 200 from by have h9 : x1.toInt = ((i 15).toInt + 1) := tx1; omega)
  have hfi : ∀ k, k ∉ ([15] : List Nat) → (upd i 15 x1) k = i k := fr_iz hfi (by decide +kernel) (by decide +kernel)
  exact rw_vret ((upd i 15 x1), q, (updA c 14 ((i 15) : Int32).toNatClampNeg s1), d) hx hb hr hlocks hS (hK.sub (tys' := []) [] rfl) hP hD dX12_clashes_20 ⟨trivial, hI, fr_w hfi (by decide +kernel), fr_w hfc (by decide +kernel), (show (x1 : Int32).toInt = (i 15).toInt + 1 from by have h50 : x1.toInt = ((i 15).toInt + 1) := tx1; omega)⟩

def wm_X12_saidFlag : List Cond := .code yX12_saidFlag cX12_saidFlag 4 (some .int) :: ((([.methodLink RX12 216 yX12_saidSo, .instanceMethod yX12_saidSo, .selects RX12 yX12_saidSo yX12_saidSo, .initialized RX12, .code yX12_saidSo cX12_saidSo 6 (some .int), .fieldLink RX12 202 "TalePlayModel" "sentences" "I", .fieldLink RX12 37 "TalePlayModel" "isSaid" "[Z", .fieldLink RX12 25 "TalePlayModel" "form" "[I", .fieldLink RX12 28 "TalePlayModel" "left" "[I", .fieldLink RX12 31 "TalePlayModel" "middle" "[I", .fieldLink RX12 34 "TalePlayModel" "right" "[I", .fieldLink RX12 19 "TalePlayModel" "kindOf" "[I", .methodLink RX12 184 yX12_isOf, .instanceMethod yX12_isOf, .selects RX12 yX12_isOf yX12_isOf, .code yX12_isOf cX12_isOf 4 (some .boolean)] : List Cond) ++ ([.fieldLink RX12 13 "TalePlayModel" "parentOf" "[I", .fieldLink RX12 16 "TalePlayModel" "defaults" "[I"] : List Cond)) ++ wsX120)
set_option maxRecDepth 20000 in
theorem gm_X12_saidFlag_X12_saidSo : GoodIn wm_X12_saidFlag (wsV RX12 216 RX12 yX12_saidSo wm_X12_saidSo) := goodIn_w (List.forall_mem_append.mpr ⟨List.forall_mem_cons.mpr ⟨List.mem_cons_of_mem _ (List.mem_append_left _ (List.mem_append_left _ (List.mem_of_getElem? (i := 0) rfl))), List.forall_mem_cons.mpr ⟨List.mem_cons_of_mem _ (List.mem_append_left _ (List.mem_append_left _ (List.mem_of_getElem? (i := 1) rfl))), List.forall_mem_cons.mpr ⟨List.mem_cons_of_mem _ (List.mem_append_left _ (List.mem_append_left _ (List.mem_of_getElem? (i := 2) rfl))), List.forall_mem_cons.mpr ⟨List.mem_cons_of_mem _ (List.mem_append_left _ (List.mem_append_left _ (List.mem_of_getElem? (i := 3) rfl))), (fun _ h => absurd h List.not_mem_nil)⟩⟩⟩⟩, List.forall_mem_cons.mpr ⟨List.mem_cons_of_mem _ (List.mem_append_left _ (List.mem_append_left _ (List.mem_of_getElem? (i := 4) rfl))), List.forall_mem_append.mpr ⟨List.forall_mem_cons.mpr ⟨List.mem_cons_of_mem _ (List.mem_append_left _ (List.mem_append_left _ (List.mem_of_getElem? (i := 5) rfl))), List.forall_mem_cons.mpr ⟨List.mem_cons_of_mem _ (List.mem_append_left _ (List.mem_append_left _ (List.mem_of_getElem? (i := 6) rfl))), List.forall_mem_cons.mpr ⟨List.mem_cons_of_mem _ (List.mem_append_left _ (List.mem_append_left _ (List.mem_of_getElem? (i := 7) rfl))), List.forall_mem_cons.mpr ⟨List.mem_cons_of_mem _ (List.mem_append_left _ (List.mem_append_left _ (List.mem_of_getElem? (i := 8) rfl))), List.forall_mem_cons.mpr ⟨List.mem_cons_of_mem _ (List.mem_append_left _ (List.mem_append_left _ (List.mem_of_getElem? (i := 9) rfl))), List.forall_mem_cons.mpr ⟨List.mem_cons_of_mem _ (List.mem_append_left _ (List.mem_append_left _ (List.mem_of_getElem? (i := 10) rfl))), (fun _ h => absurd h List.not_mem_nil)⟩⟩⟩⟩⟩⟩, (fun _ h => List.mem_cons_of_mem _ (List.mem_append_right _ h))⟩⟩⟩) (by decide +kernel)
set_option maxRecDepth 20000 in
theorem gm_X12_saidFlag_X12_isOf : GoodIn wm_X12_saidFlag (wsV RX12 184 RX12 yX12_isOf wm_X12_isOf) := goodIn_w (List.forall_mem_append.mpr ⟨List.forall_mem_cons.mpr ⟨List.mem_cons_of_mem _ (List.mem_append_left _ (List.mem_append_left _ (List.mem_of_getElem? (i := 12) rfl))), List.forall_mem_cons.mpr ⟨List.mem_cons_of_mem _ (List.mem_append_left _ (List.mem_append_left _ (List.mem_of_getElem? (i := 13) rfl))), List.forall_mem_cons.mpr ⟨List.mem_cons_of_mem _ (List.mem_append_left _ (List.mem_append_left _ (List.mem_of_getElem? (i := 14) rfl))), List.forall_mem_cons.mpr ⟨List.mem_cons_of_mem _ (List.mem_append_left _ (List.mem_append_left _ (List.mem_of_getElem? (i := 3) rfl))), (fun _ h => absurd h List.not_mem_nil)⟩⟩⟩⟩, List.forall_mem_cons.mpr ⟨List.mem_cons_of_mem _ (List.mem_append_left _ (List.mem_append_left _ (List.mem_of_getElem? (i := 15) rfl))), List.forall_mem_append.mpr ⟨List.forall_mem_cons.mpr ⟨List.mem_cons_of_mem _ (List.mem_append_left _ (List.mem_append_left _ (List.mem_of_getElem? (i := 11) rfl))), List.forall_mem_cons.mpr ⟨List.mem_cons_of_mem _ (List.mem_append_left _ (List.mem_append_right _ (List.mem_of_getElem? (i := 0) rfl))), (fun _ h => absurd h List.not_mem_nil)⟩⟩, (fun _ h => List.mem_cons_of_mem _ (List.mem_append_right _ h))⟩⟩⟩) (by decide +kernel)
set_option maxHeartbeats 4000000 in
set_option maxRecDepth 100000 in
theorem s_X12_saidFlag (l : Launch) (D : va_G) (sz : Nat) (o : Nat) (a : Nat → Nat) (t : Nat → ClassId) (i : Nat → Int32) (q : Int64) (c : Nat → Nat → Int32) (d : Nat → Nat → Int64) (w : Int32) (f : Int32) (hI : mInv i c) (hw : 0 ≤ w.toInt ∧ w.toInt ≤ 29) (hf : 0 ≤ f.toInt ∧ f.toInt ≤ 5) : Met l yX12_saidFlag wm_X12_saidFlag ({ frames := 1, cells := 0, slots := 0, locals := 25 }) (va_Pc [.ref o, .int w, .int f] (pA D sz (mW o a t i q c d) (mT t))) (va_Qi (fun (r : Int32) (_ : Unit) => (r.toInt = -9 ∨ (0 ≤ r.toInt ∧ r.toInt ≤ 1))) oA (ro sz)) 0 0 (ro sz) := by
  refine Met.ofW (cc := cX12_saidFlag) (maxL := 4) (ret := (some .int)) (by decide +kernel) rfl ?_
  intro p e s m args below meth cd s₁ B hml hv
  obtain ⟨rfl, hsz, hP, hK⟩ := hv
  have hx := B.exec
  have hb := B.bytes
  have hr := B.returns
  have hts := atoms_spec (ws := wm_X12_saidFlag) B.pre
  have hown : s.vm.findClass RX12 = some m.cls := findClass_of_methodNamed B.named
  have hlocks := B.notSynchronized
  subst hsz
  have hA : ∀ q : Nat, s.heap.size ≤ q → ro s.heap.size q := fun _ h => h
  have hS : va_S (ro s.heap.size) s.heap s.heap [] := va_S.rf
  have hl := lv_entry ([.ref o, .int w, .int f]) (n := 4) (Nat.le_of_ble_eq_true rfl)
  rw [lg_entry_eq]
  generalize (lg_sl ([.ref o, .int w, .int f]) ++ List.replicate (4 - (lg_sl ([.ref o, .int w, .int f])).length) Slot.unset).toArray = ls at hl ⊢
  have hl : lv_has ls 4 [(0, .ref o), (1, .int w), (2, .int f)] := hl
  refine lv_aload_n hx hb dX12_saidFlag_0 rfl (lv_at hl 0 rfl) ?_
  refine lv_bipush (v := 6) hx hb dX12_saidFlag_1 (by decide +kernel) ?_
  refine lv_iload_n hx hb dX12_saidFlag_3 rfl (lv_at hl 1 rfl) ?_
  refine lv_iload_n hx hb dX12_saidFlag_4 rfl (lv_at hl 2 rfl) ?_
  refine lv_iconst (v := 1) hx hb dX12_saidFlag_5 (by decide +kernel) ?_
  refine ro_calli (va_runV (As := [.int 6, .int w, .int f, .int 1]) (rest := []) ⟨hx, hb, hml, hown, hts⟩ (s_X12_saidSo l D s.heap.size o a t i q c d 6 w f 1 hI ) (cwV 4 hts gm_X12_saidFlag_X12_saidSo rfl rfl rfl (by decide +kernel) ⟨Nat.le_of_ble_eq_true rfl, Nat.le_of_ble_eq_true rfl⟩) (pA_V hK hP (ci := 12) (q0 := 0) rfl rfl) rfl rfl hl.1 rfl (lv_room (Nat.le_of_ble_eq_true rfl)) dX12_saidFlag_6 ⟨Nat.le_of_ble_eq_true rfl, Nat.le_of_ble_eq_true rfl⟩) hS hA hP (fun r1 u1 H locs hw1 hP hS => ?_)
  have hw1 : (r1.toInt = -9 ∨ (0 ≤ r1.toInt ∧ r1.toInt ≤ 199)) := hw1
  refine lv_bipush (v := (-9)) hx hb dX12_saidFlag_9 (by decide +kernel) ?_
  refine lv_icmp_eq (tgt := 16) hx hb dX12_saidFlag_11 (by decide +kernel) (fun c2 => ?_) (fun c2 => ?_)
  · have f2 := (ti_eq (a := r1.toInt) (b := (-9)) rfl (by decide +kernel)).mp c2
    refine lv_aload_n hx hb dX12_saidFlag_16 rfl (lv_at hl 0 rfl) ?_
    refine lv_bipush (v := 6) hx hb dX12_saidFlag_17 (by decide +kernel) ?_
    refine lv_iload_n hx hb dX12_saidFlag_19 rfl (lv_at hl 1 rfl) ?_
    refine lv_iload_n hx hb dX12_saidFlag_20 rfl (lv_at hl 2 rfl) ?_
    refine lv_iconst (v := 0) hx hb dX12_saidFlag_21 (by decide +kernel) ?_
    refine ro_calli (va_runV (As := [.int 6, .int w, .int f, .int 0]) (rest := []) ⟨hx, hb, hml, hown, hts⟩ (s_X12_saidSo l D H.size o a t i q c d 6 w f 0 hI ) (cwV 4 hts gm_X12_saidFlag_X12_saidSo rfl rfl rfl (by decide +kernel) ⟨Nat.le_of_ble_eq_true rfl, Nat.le_of_ble_eq_true rfl⟩) (pA_V hK hP (ci := 12) (q0 := 0) rfl rfl) rfl rfl hl.1 rfl (lv_room (Nat.le_of_ble_eq_true rfl)) dX12_saidFlag_22 ⟨Nat.le_of_ble_eq_true rfl, Nat.le_of_ble_eq_true rfl⟩) hS hA hP (fun r3 u3 H locs hw3 hP hS => ?_)
    have hw3 : (r3.toInt = -9 ∨ (0 ≤ r3.toInt ∧ r3.toInt ≤ 199)) := hw3
    refine lv_bipush (v := (-9)) hx hb dX12_saidFlag_25 (by decide +kernel) ?_
    refine lv_icmp_eq (tgt := 32) hx hb dX12_saidFlag_27 (by decide +kernel) (fun c4 => ?_) (fun c4 => ?_)
    · have f4 := (ti_eq (a := r3.toInt) (b := (-9)) rfl (by decide +kernel)).mp c4
      refine lv_aload_n hx hb dX12_saidFlag_32 rfl (lv_at hl 0 rfl) ?_
      refine mget_6 hx hb hts (fun _ h => List.mem_cons_of_mem _ (List.mem_append_right _ h)) hown hK hP (hts (.fieldLink RX12 19 "TalePlayModel" "kindOf" "[I") (List.mem_cons_of_mem _ (List.mem_append_left _ (List.mem_append_left _ (List.mem_of_getElem? (i := 11) rfl))))) dX12_saidFlag_33 ?_
      refine lv_iload_n hx hb dX12_saidFlag_36 rfl (lv_at hl 1 rfl) ?_
      refine mld_6 hx hb hK hP (vp_in_iff.mpr (by have h9 : w.toInt = w.toInt := rfl; omega)) dX12_saidFlag_37 (fun x5 ex5 => ?_)
      have rx5 : 0 ≤ x5.toInt ∧ x5.toInt ≤ 23 := by rw [ex5]; exact hI.2 6 _
      refine lv_istore_n (lv' := [(3, .int x5), (0, .ref o), (1, .int w), (2, .int f)]) hx hb dX12_saidFlag_38 rfl hl (by decide +kernel) rfl (fun ls hl => ?_)
      have lp6 : ∀ (fu : Nat) (y6_3 : Int32), (y6_3.toInt = -9 ∨ (0 ≤ y6_3.toInt ∧ y6_3.toInt ≤ 23)) → (y6_3.toInt + 10).toNat < fu → ∀ (H : Heap) (locs : List Loc) (ls : Array Slot), va_P D vwCl (mW o a t i q c d) H → va_S (ro s.heap.size) s.heap H locs → lv_has ls 4 [(3, .int y6_3), (0, .ref o), (1, .int w), (2, .int f)] → W p l e (headSpec wm_X12_saidFlag ({ frames := 1, cells := 0, slots := 0, locals := 25 })).room s m ([.ref o, .int w, .int f] : List Value).toArray below meth cd H locs 0 0 (MQ below (va_Qi (fun (r : Int32) (_ : Unit) => (r.toInt = -9 ∨ (0 ≤ r.toInt ∧ r.toInt ≤ 1))) oA (ro s.heap.size)) ([.ref o, .int w, .int f] : List Value).toArray s 0 0 (ro s.heap.size)) (F0 m 39 ls []) := by
        intro fu
        induction fu with
        | zero => intro y6_3 hy6_3 hm; exact absurd hm (Nat.not_lt_zero _)
        | succ fu ih =>
          intro y6_3 hy6_3 hm H locs ls hP hS hl
          have ih6 := ih
          refine lv_iload_n hx hb dX12_saidFlag_39 rfl (lv_at hl 0 rfl) ?_
          refine lv_bipush (v := (-9)) hx hb dX12_saidFlag_40 (by decide +kernel) ?_
          refine lv_icmp_eq (tgt := 83) hx hb dX12_saidFlag_42 (by decide +kernel) (fun c7 => ?_) (fun c7 => ?_)
          · have f7 := (ti_eq (a := y6_3.toInt) (b := (-9)) rfl (by decide +kernel)).mp c7
            refine lv_iload_n hx hb dX12_saidFlag_83 rfl (lv_at hl 3 rfl) ?_
            refine lv_iconst (v := 2) hx hb dX12_saidFlag_84 (by decide +kernel) ?_
            refine lv_icmp_ne (tgt := 101) hx hb dX12_saidFlag_85 (by decide +kernel) (fun c8 => ?_) (fun c8 => ?_)
            · have f8 := mt (ti_eq (a := f.toInt) (b := 2) rfl (by decide +kernel)).mpr c8
              refine lv_iconst (v := 0) hx hb dX12_saidFlag_101 (by decide +kernel) ?_
              exact ro_iret hx hb hr hlocks hS dX12_saidFlag_102 (show (0 : Int32).toInt = -9 ∨ (0 ≤ (0 : Int32).toInt ∧ (0 : Int32).toInt ≤ 1) from by decide +kernel)
            · have f8 := (ti_eq (a := f.toInt) (b := 2) rfl (by decide +kernel)).mp c8
              refine lv_aload_n hx hb dX12_saidFlag_88 rfl (lv_at hl 1 rfl) ?_
              refine lv_iload_n hx hb dX12_saidFlag_89 rfl (lv_at hl 2 rfl) ?_
              refine lv_iconst (v := 0) hx hb dX12_saidFlag_90 (by decide +kernel) ?_
              refine ro_calli (va_runV (As := [.int w, .int 0]) (rest := []) ⟨hx, hb, hml, hown, hts⟩ (s_X12_isOf l D H.size o a t i q c d w 0 hI (show 0 ≤ w.toInt ∧ w.toInt ≤ 29 from by have h91 : (0 : Int32).toInt = 0 := (by decide +kernel); omega) (show 0 ≤ 0 from by decide +kernel)) (cwV 2 hts gm_X12_saidFlag_X12_isOf rfl rfl rfl (by decide +kernel) ⟨Nat.le_of_ble_eq_true rfl, Nat.le_of_ble_eq_true rfl⟩) (pA_V hK hP (ci := 12) (q0 := 0) rfl rfl) rfl rfl hl.1 rfl (lv_room (Nat.le_of_ble_eq_true rfl)) dX12_saidFlag_91 ⟨Nat.le_of_ble_eq_true rfl, Nat.le_of_ble_eq_true rfl⟩) hS hA hP (fun r9 u9 H locs hw9 hP hS => ?_)
              have hw9 : ((0 ≤ r9.toInt ∧ r9.toInt ≤ 1) ∧ (Sm r9 (Kd (c 3) (c 6) w.toInt 0))) := hw9
              obtain ⟨hw9, hr9_0⟩ := hw9
              have hr9_0 : Sm r9 (Kd (c 3) (c 6) w.toInt 0) := hr9_0
              refine lv_if_eq (tgt := 101) hx hb dX12_saidFlag_94 (by decide +kernel) (fun c10 => ?_) (fun c10 => ?_)
              · have f10 := (ti_eq (a := r9.toInt) (b := 0) rfl (by decide +kernel)).mp c10
                have s10 := sm_f hr9_0 c10
                refine lv_iconst (v := 0) hx hb dX12_saidFlag_101 (by decide +kernel) ?_
                exact ro_iret hx hb hr hlocks hS dX12_saidFlag_102 (show (0 : Int32).toInt = -9 ∨ (0 ≤ (0 : Int32).toInt ∧ (0 : Int32).toInt ≤ 1) from by decide +kernel)
              · have f10 := mt (ti_eq (a := r9.toInt) (b := 0) rfl (by decide +kernel)).mpr c10
                have s10 := sm_t hr9_0 c10
                refine lv_iconst (v := 1) hx hb dX12_saidFlag_97 (by decide +kernel) ?_
                refine lv_goto (tgt := 102) hx hb dX12_saidFlag_98 (by decide +kernel) ?_
                exact ro_iret hx hb hr hlocks hS dX12_saidFlag_102 (show (1 : Int32).toInt = -9 ∨ (0 ≤ (1 : Int32).toInt ∧ (1 : Int32).toInt ≤ 1) from by decide +kernel)
          · have f7 := mt (ti_eq (a := y6_3.toInt) (b := (-9)) rfl (by decide +kernel)).mpr c7
            refine lv_aload_n hx hb dX12_saidFlag_45 rfl (lv_at hl 1 rfl) ?_
            refine mget_4 hx hb hts (fun _ h => List.mem_cons_of_mem _ (List.mem_append_right _ h)) hown hK hP (hts (.fieldLink RX12 16 "TalePlayModel" "defaults" "[I") (List.mem_cons_of_mem _ (List.mem_append_left _ (List.mem_append_right _ (List.mem_of_getElem? (i := 1) rfl))))) dX12_saidFlag_46 ?_
            refine lv_bipush (v := 6) hx hb dX12_saidFlag_49 (by decide +kernel) ?_
            refine lv_iload_n hx hb dX12_saidFlag_51 rfl (lv_at hl 0 rfl) ?_
            refine lv_imul hx hb dX12_saidFlag_52 ?_
            refine lv_topi (fun x11 ex11 => ?_)
            have tx11 := ti_mul (a := 6) (b := y6_3.toInt) ex11 (by decide +kernel) rfl (by omega) (by omega)
            refine lv_iload_n hx hb dX12_saidFlag_53 rfl (lv_at hl 3 rfl) ?_
            refine lv_iadd hx hb dX12_saidFlag_54 ?_
            refine lv_topi (fun x12 ex12 => ?_)
            have tx12 := ti_add (a := (6 * y6_3.toInt)) (b := f.toInt) ex12 tx11 rfl (by omega) (by omega)
            refine mld_4 hx hb hK hP (vp_in_iff.mpr (by have h9 : x12.toInt = ((6 * y6_3.toInt) + f.toInt) := tx12; omega)) dX12_saidFlag_55 (fun x13 ex13 => ?_)
            have rx13 : x13.toInt = -9 ∨ (0 ≤ x13.toInt ∧ x13.toInt ≤ 1) := by rw [ex13]; exact hI.2 4 _
            refine lv_bipush (v := (-9)) hx hb dX12_saidFlag_56 (by decide +kernel) ?_
            refine lv_icmp_eq (tgt := 73) hx hb dX12_saidFlag_58 (by decide +kernel) (fun c14 => ?_) (fun c14 => ?_)
            · have f14 := (ti_eq (a := x13.toInt) (b := (-9)) rfl (by decide +kernel)).mp c14
              refine lv_aload_n hx hb dX12_saidFlag_73 rfl (lv_at hl 1 rfl) ?_
              refine mget_3 hx hb hts (fun _ h => List.mem_cons_of_mem _ (List.mem_append_right _ h)) hown hK hP (hts (.fieldLink RX12 13 "TalePlayModel" "parentOf" "[I") (List.mem_cons_of_mem _ (List.mem_append_left _ (List.mem_append_right _ (List.mem_of_getElem? (i := 0) rfl))))) dX12_saidFlag_74 ?_
              refine lv_iload_n hx hb dX12_saidFlag_77 rfl (lv_at hl 0 rfl) ?_
              refine mld_3 hx hb hK hP (vp_in_iff.mpr (by have h9 : y6_3.toInt = y6_3.toInt := rfl; omega)) dX12_saidFlag_78 (fun x15 ex15 => ?_)
              have rx15 : ((((y6_3 : Int32).toNatClampNeg : Nat) : Int) ≤ 1 ∧ x15.toInt = -9) ∨ (2 ≤ (((y6_3 : Int32).toNatClampNeg : Nat) : Int) ∧ (((y6_3 : Int32).toNatClampNeg : Nat) : Int) ≤ 5 ∧ x15.toInt = 1) ∨ (6 ≤ (((y6_3 : Int32).toNatClampNeg : Nat) : Int) ∧ 0 ≤ x15.toInt ∧ x15.toInt ≤ 23 ∧ x15.toInt < (((y6_3 : Int32).toNatClampNeg : Nat) : Int)) := by rw [ex15]; exact hI.2 3 _
              have rc15 : (((y6_3 : Int32).toNatClampNeg : Nat) : Int) = (y6_3 : Int32).toInt := cl_nn (by have h9 : y6_3.toInt = y6_3.toInt := rfl; omega)
              refine lv_istore_n (lv' := [(3, .int x15), (0, .ref o), (1, .int w), (2, .int f)]) hx hb dX12_saidFlag_79 rfl hl (by decide +kernel) rfl (fun ls hl => ?_)
              refine lv_goto (tgt := 39) hx hb dX12_saidFlag_80 (by decide +kernel) ?_
              exact ih6 x15 (show x15.toInt = -9 ∨ (0 ≤ x15.toInt ∧ x15.toInt ≤ 23) from by omega) (by omega) _ _ _ hP hS (lv_sub hl [0, 1, 2, 3] rfl)
            · have f14 := mt (ti_eq (a := x13.toInt) (b := (-9)) rfl (by decide +kernel)).mpr c14
              refine lv_aload_n hx hb dX12_saidFlag_61 rfl (lv_at hl 1 rfl) ?_
              refine mget_4 hx hb hts (fun _ h => List.mem_cons_of_mem _ (List.mem_append_right _ h)) hown hK hP (hts (.fieldLink RX12 16 "TalePlayModel" "defaults" "[I") (List.mem_cons_of_mem _ (List.mem_append_left _ (List.mem_append_right _ (List.mem_of_getElem? (i := 1) rfl))))) dX12_saidFlag_62 ?_
              refine lv_bipush (v := 6) hx hb dX12_saidFlag_65 (by decide +kernel) ?_
              refine lv_iload_n hx hb dX12_saidFlag_67 rfl (lv_at hl 0 rfl) ?_
              refine lv_imul hx hb dX12_saidFlag_68 ?_
              refine lv_topi (fun x16 ex16 => ?_)
              have tx16 := ti_mul (a := 6) (b := y6_3.toInt) ex16 (by decide +kernel) rfl (by omega) (by omega)
              refine lv_iload_n hx hb dX12_saidFlag_69 rfl (lv_at hl 3 rfl) ?_
              refine lv_iadd hx hb dX12_saidFlag_70 ?_
              refine lv_topi (fun x17 ex17 => ?_)
              have tx17 := ti_add (a := (6 * y6_3.toInt)) (b := f.toInt) ex17 tx16 rfl (by omega) (by omega)
              refine mld_4 hx hb hK hP (vp_in_iff.mpr (by have h9 : x17.toInt = ((6 * y6_3.toInt) + f.toInt) := tx17; omega)) dX12_saidFlag_71 (fun x18 ex18 => ?_)
              have rx18 : x18.toInt = -9 ∨ (0 ≤ x18.toInt ∧ x18.toInt ≤ 1) := by rw [ex18]; exact hI.2 4 _
              exact ro_iret hx hb hr hlocks hS dX12_saidFlag_72 (show x18.toInt = -9 ∨ (0 ≤ x18.toInt ∧ x18.toInt ≤ 1) from by omega)
      exact lp6 _ x5 (show x5.toInt = -9 ∨ (0 ≤ x5.toInt ∧ x5.toInt ≤ 23) from by omega) (Nat.lt_succ_self _) _ _ _ hP hS (lv_sub hl [0, 1, 2, 3] rfl)
    · have f4 := mt (ti_eq (a := r3.toInt) (b := (-9)) rfl (by decide +kernel)).mpr c4
      refine lv_iconst (v := 0) hx hb dX12_saidFlag_30 (by decide +kernel) ?_
      exact ro_iret hx hb hr hlocks hS dX12_saidFlag_31 (show (0 : Int32).toInt = -9 ∨ (0 ≤ (0 : Int32).toInt ∧ (0 : Int32).toInt ≤ 1) from by decide +kernel)
  · have f2 := mt (ti_eq (a := r1.toInt) (b := (-9)) rfl (by decide +kernel)).mpr c2
    refine lv_iconst (v := 1) hx hb dX12_saidFlag_14 (by decide +kernel) ?_
    exact ro_iret hx hb hr hlocks hS dX12_saidFlag_15 (show (1 : Int32).toInt = -9 ∨ (0 ≤ (1 : Int32).toInt ∧ (1 : Int32).toInt ≤ 1) from by decide +kernel)

def wm_X12_isExitBarred : List Cond := .code yX12_isExitBarred cX12_isExitBarred 5 (some .boolean) :: ((([.fieldLink RX12 202 "TalePlayModel" "sentences" "I", .methodLink RX12 184 yX12_isOf, .instanceMethod yX12_isOf, .selects RX12 yX12_isOf yX12_isOf, .initialized RX12, .code yX12_isOf cX12_isOf 4 (some .boolean), .fieldLink RX12 19 "TalePlayModel" "kindOf" "[I", .fieldLink RX12 13 "TalePlayModel" "parentOf" "[I", .fieldLink RX12 205 "TalePlayModel" "rowMany" "I", .fieldLink RX12 37 "TalePlayModel" "isSaid" "[Z", .fieldLink RX12 25 "TalePlayModel" "form" "[I", .fieldLink RX12 31 "TalePlayModel" "middle" "[I", .methodLink RX12 212 yX12_clashes, .instanceMethod yX12_clashes, .selects RX12 yX12_clashes yX12_clashes, .code yX12_clashes cX12_clashes 2 none] : List Cond) ++ ([.fieldLink RX12 41 "TalePlayModel" "row" "[I", .fieldLink RX12 28 "TalePlayModel" "left" "[I", .fieldLink RX12 34 "TalePlayModel" "right" "[I"] : List Cond)) ++ wsX120)
set_option maxRecDepth 20000 in
theorem gm_X12_isExitBarred_X12_isOf : GoodIn wm_X12_isExitBarred (wsV RX12 184 RX12 yX12_isOf wm_X12_isOf) := goodIn_w (List.forall_mem_append.mpr ⟨List.forall_mem_cons.mpr ⟨List.mem_cons_of_mem _ (List.mem_append_left _ (List.mem_append_left _ (List.mem_of_getElem? (i := 1) rfl))), List.forall_mem_cons.mpr ⟨List.mem_cons_of_mem _ (List.mem_append_left _ (List.mem_append_left _ (List.mem_of_getElem? (i := 2) rfl))), List.forall_mem_cons.mpr ⟨List.mem_cons_of_mem _ (List.mem_append_left _ (List.mem_append_left _ (List.mem_of_getElem? (i := 3) rfl))), List.forall_mem_cons.mpr ⟨List.mem_cons_of_mem _ (List.mem_append_left _ (List.mem_append_left _ (List.mem_of_getElem? (i := 4) rfl))), (fun _ h => absurd h List.not_mem_nil)⟩⟩⟩⟩, List.forall_mem_cons.mpr ⟨List.mem_cons_of_mem _ (List.mem_append_left _ (List.mem_append_left _ (List.mem_of_getElem? (i := 5) rfl))), List.forall_mem_append.mpr ⟨List.forall_mem_cons.mpr ⟨List.mem_cons_of_mem _ (List.mem_append_left _ (List.mem_append_left _ (List.mem_of_getElem? (i := 6) rfl))), List.forall_mem_cons.mpr ⟨List.mem_cons_of_mem _ (List.mem_append_left _ (List.mem_append_left _ (List.mem_of_getElem? (i := 7) rfl))), (fun _ h => absurd h List.not_mem_nil)⟩⟩, (fun _ h => List.mem_cons_of_mem _ (List.mem_append_right _ h))⟩⟩⟩) (by decide +kernel)
set_option maxRecDepth 20000 in
theorem gm_X12_isExitBarred_X12_clashes : GoodIn wm_X12_isExitBarred (wsV RX12 212 RX12 yX12_clashes wm_X12_clashes) := goodIn_w (List.forall_mem_append.mpr ⟨List.forall_mem_cons.mpr ⟨List.mem_cons_of_mem _ (List.mem_append_left _ (List.mem_append_left _ (List.mem_of_getElem? (i := 12) rfl))), List.forall_mem_cons.mpr ⟨List.mem_cons_of_mem _ (List.mem_append_left _ (List.mem_append_left _ (List.mem_of_getElem? (i := 13) rfl))), List.forall_mem_cons.mpr ⟨List.mem_cons_of_mem _ (List.mem_append_left _ (List.mem_append_left _ (List.mem_of_getElem? (i := 14) rfl))), List.forall_mem_cons.mpr ⟨List.mem_cons_of_mem _ (List.mem_append_left _ (List.mem_append_left _ (List.mem_of_getElem? (i := 4) rfl))), (fun _ h => absurd h List.not_mem_nil)⟩⟩⟩⟩, List.forall_mem_cons.mpr ⟨List.mem_cons_of_mem _ (List.mem_append_left _ (List.mem_append_left _ (List.mem_of_getElem? (i := 15) rfl))), List.forall_mem_append.mpr ⟨List.forall_mem_cons.mpr ⟨List.mem_cons_of_mem _ (List.mem_append_left _ (List.mem_append_right _ (List.mem_of_getElem? (i := 0) rfl))), List.forall_mem_cons.mpr ⟨List.mem_cons_of_mem _ (List.mem_append_left _ (List.mem_append_left _ (List.mem_of_getElem? (i := 8) rfl))), (fun _ h => absurd h List.not_mem_nil)⟩⟩, (fun _ h => List.mem_cons_of_mem _ (List.mem_append_right _ h))⟩⟩⟩) (by decide +kernel)
def wm_X12_isKeyBarred : List Cond := .code yX12_isKeyBarred cX12_isKeyBarred 3 (some .boolean) :: (([.fieldLink RX12 202 "TalePlayModel" "sentences" "I", .fieldLink RX12 205 "TalePlayModel" "rowMany" "I", .fieldLink RX12 37 "TalePlayModel" "isSaid" "[Z", .fieldLink RX12 25 "TalePlayModel" "form" "[I", .fieldLink RX12 31 "TalePlayModel" "middle" "[I", .methodLink RX12 212 yX12_clashes, .instanceMethod yX12_clashes, .selects RX12 yX12_clashes yX12_clashes, .initialized RX12, .code yX12_clashes cX12_clashes 2 none, .fieldLink RX12 41 "TalePlayModel" "row" "[I"] : List Cond) ++ wsX120)
set_option maxRecDepth 20000 in
theorem gm_X12_isKeyBarred_X12_clashes : GoodIn wm_X12_isKeyBarred (wsV RX12 212 RX12 yX12_clashes wm_X12_clashes) := goodIn_w (List.forall_mem_append.mpr ⟨List.forall_mem_cons.mpr ⟨List.mem_cons_of_mem _ (List.mem_append_left _ (List.mem_of_getElem? (i := 5) rfl)), List.forall_mem_cons.mpr ⟨List.mem_cons_of_mem _ (List.mem_append_left _ (List.mem_of_getElem? (i := 6) rfl)), List.forall_mem_cons.mpr ⟨List.mem_cons_of_mem _ (List.mem_append_left _ (List.mem_of_getElem? (i := 7) rfl)), List.forall_mem_cons.mpr ⟨List.mem_cons_of_mem _ (List.mem_append_left _ (List.mem_of_getElem? (i := 8) rfl)), (fun _ h => absurd h List.not_mem_nil)⟩⟩⟩⟩, List.forall_mem_cons.mpr ⟨List.mem_cons_of_mem _ (List.mem_append_left _ (List.mem_of_getElem? (i := 9) rfl)), List.forall_mem_append.mpr ⟨List.forall_mem_cons.mpr ⟨List.mem_cons_of_mem _ (List.mem_append_left _ (List.mem_of_getElem? (i := 10) rfl)), List.forall_mem_cons.mpr ⟨List.mem_cons_of_mem _ (List.mem_append_left _ (List.mem_of_getElem? (i := 1) rfl)), (fun _ h => absurd h List.not_mem_nil)⟩⟩, (fun _ h => List.mem_cons_of_mem _ (List.mem_append_right _ h))⟩⟩⟩) (by decide +kernel)
def wm_X12_isFlagBarred : List Cond := .code yX12_isFlagBarred cX12_isFlagBarred 5 (some .boolean) :: ((([.methodLink RX12 216 yX12_saidSo, .instanceMethod yX12_saidSo, .selects RX12 yX12_saidSo yX12_saidSo, .initialized RX12, .code yX12_saidSo cX12_saidSo 6 (some .int), .fieldLink RX12 202 "TalePlayModel" "sentences" "I", .fieldLink RX12 37 "TalePlayModel" "isSaid" "[Z", .fieldLink RX12 25 "TalePlayModel" "form" "[I", .fieldLink RX12 28 "TalePlayModel" "left" "[I", .fieldLink RX12 31 "TalePlayModel" "middle" "[I", .fieldLink RX12 34 "TalePlayModel" "right" "[I", .methodLink RX12 212 yX12_clashes, .instanceMethod yX12_clashes, .selects RX12 yX12_clashes yX12_clashes, .code yX12_clashes cX12_clashes 2 none, .fieldLink RX12 41 "TalePlayModel" "row" "[I"] : List Cond) ++ ([.fieldLink RX12 205 "TalePlayModel" "rowMany" "I", .methodLink RX12 208 yX12_placing, .instanceMethod yX12_placing, .selects RX12 yX12_placing yX12_placing, .code yX12_placing cX12_placing 3 (some .int)] : List Cond)) ++ wsX120)
set_option maxRecDepth 20000 in
theorem gm_X12_isFlagBarred_X12_saidSo : GoodIn wm_X12_isFlagBarred (wsV RX12 216 RX12 yX12_saidSo wm_X12_saidSo) := goodIn_w (List.forall_mem_append.mpr ⟨List.forall_mem_cons.mpr ⟨List.mem_cons_of_mem _ (List.mem_append_left _ (List.mem_append_left _ (List.mem_of_getElem? (i := 0) rfl))), List.forall_mem_cons.mpr ⟨List.mem_cons_of_mem _ (List.mem_append_left _ (List.mem_append_left _ (List.mem_of_getElem? (i := 1) rfl))), List.forall_mem_cons.mpr ⟨List.mem_cons_of_mem _ (List.mem_append_left _ (List.mem_append_left _ (List.mem_of_getElem? (i := 2) rfl))), List.forall_mem_cons.mpr ⟨List.mem_cons_of_mem _ (List.mem_append_left _ (List.mem_append_left _ (List.mem_of_getElem? (i := 3) rfl))), (fun _ h => absurd h List.not_mem_nil)⟩⟩⟩⟩, List.forall_mem_cons.mpr ⟨List.mem_cons_of_mem _ (List.mem_append_left _ (List.mem_append_left _ (List.mem_of_getElem? (i := 4) rfl))), List.forall_mem_append.mpr ⟨List.forall_mem_cons.mpr ⟨List.mem_cons_of_mem _ (List.mem_append_left _ (List.mem_append_left _ (List.mem_of_getElem? (i := 5) rfl))), List.forall_mem_cons.mpr ⟨List.mem_cons_of_mem _ (List.mem_append_left _ (List.mem_append_left _ (List.mem_of_getElem? (i := 6) rfl))), List.forall_mem_cons.mpr ⟨List.mem_cons_of_mem _ (List.mem_append_left _ (List.mem_append_left _ (List.mem_of_getElem? (i := 7) rfl))), List.forall_mem_cons.mpr ⟨List.mem_cons_of_mem _ (List.mem_append_left _ (List.mem_append_left _ (List.mem_of_getElem? (i := 8) rfl))), List.forall_mem_cons.mpr ⟨List.mem_cons_of_mem _ (List.mem_append_left _ (List.mem_append_left _ (List.mem_of_getElem? (i := 9) rfl))), List.forall_mem_cons.mpr ⟨List.mem_cons_of_mem _ (List.mem_append_left _ (List.mem_append_left _ (List.mem_of_getElem? (i := 10) rfl))), (fun _ h => absurd h List.not_mem_nil)⟩⟩⟩⟩⟩⟩, (fun _ h => List.mem_cons_of_mem _ (List.mem_append_right _ h))⟩⟩⟩) (by decide +kernel)
set_option maxRecDepth 20000 in
theorem gm_X12_isFlagBarred_X12_clashes : GoodIn wm_X12_isFlagBarred (wsV RX12 212 RX12 yX12_clashes wm_X12_clashes) := goodIn_w (List.forall_mem_append.mpr ⟨List.forall_mem_cons.mpr ⟨List.mem_cons_of_mem _ (List.mem_append_left _ (List.mem_append_left _ (List.mem_of_getElem? (i := 11) rfl))), List.forall_mem_cons.mpr ⟨List.mem_cons_of_mem _ (List.mem_append_left _ (List.mem_append_left _ (List.mem_of_getElem? (i := 12) rfl))), List.forall_mem_cons.mpr ⟨List.mem_cons_of_mem _ (List.mem_append_left _ (List.mem_append_left _ (List.mem_of_getElem? (i := 13) rfl))), List.forall_mem_cons.mpr ⟨List.mem_cons_of_mem _ (List.mem_append_left _ (List.mem_append_left _ (List.mem_of_getElem? (i := 3) rfl))), (fun _ h => absurd h List.not_mem_nil)⟩⟩⟩⟩, List.forall_mem_cons.mpr ⟨List.mem_cons_of_mem _ (List.mem_append_left _ (List.mem_append_left _ (List.mem_of_getElem? (i := 14) rfl))), List.forall_mem_append.mpr ⟨List.forall_mem_cons.mpr ⟨List.mem_cons_of_mem _ (List.mem_append_left _ (List.mem_append_left _ (List.mem_of_getElem? (i := 15) rfl))), List.forall_mem_cons.mpr ⟨List.mem_cons_of_mem _ (List.mem_append_left _ (List.mem_append_right _ (List.mem_of_getElem? (i := 0) rfl))), (fun _ h => absurd h List.not_mem_nil)⟩⟩, (fun _ h => List.mem_cons_of_mem _ (List.mem_append_right _ h))⟩⟩⟩) (by decide +kernel)
set_option maxRecDepth 20000 in
theorem gm_X12_isFlagBarred_X12_placing : GoodIn wm_X12_isFlagBarred (wsV RX12 208 RX12 yX12_placing wm_X12_placing) := goodIn_w (List.forall_mem_append.mpr ⟨List.forall_mem_cons.mpr ⟨List.mem_cons_of_mem _ (List.mem_append_left _ (List.mem_append_right _ (List.mem_of_getElem? (i := 1) rfl))), List.forall_mem_cons.mpr ⟨List.mem_cons_of_mem _ (List.mem_append_left _ (List.mem_append_right _ (List.mem_of_getElem? (i := 2) rfl))), List.forall_mem_cons.mpr ⟨List.mem_cons_of_mem _ (List.mem_append_left _ (List.mem_append_right _ (List.mem_of_getElem? (i := 3) rfl))), List.forall_mem_cons.mpr ⟨List.mem_cons_of_mem _ (List.mem_append_left _ (List.mem_append_left _ (List.mem_of_getElem? (i := 3) rfl))), (fun _ h => absurd h List.not_mem_nil)⟩⟩⟩⟩, List.forall_mem_cons.mpr ⟨List.mem_cons_of_mem _ (List.mem_append_left _ (List.mem_append_right _ (List.mem_of_getElem? (i := 4) rfl))), List.forall_mem_append.mpr ⟨List.forall_mem_cons.mpr ⟨List.mem_cons_of_mem _ (List.mem_append_left _ (List.mem_append_left _ (List.mem_of_getElem? (i := 5) rfl))), List.forall_mem_cons.mpr ⟨List.mem_cons_of_mem _ (List.mem_append_left _ (List.mem_append_left _ (List.mem_of_getElem? (i := 6) rfl))), List.forall_mem_cons.mpr ⟨List.mem_cons_of_mem _ (List.mem_append_left _ (List.mem_append_left _ (List.mem_of_getElem? (i := 7) rfl))), List.forall_mem_cons.mpr ⟨List.mem_cons_of_mem _ (List.mem_append_left _ (List.mem_append_left _ (List.mem_of_getElem? (i := 8) rfl))), (fun _ h => absurd h List.not_mem_nil)⟩⟩⟩⟩, (fun _ h => List.mem_cons_of_mem _ (List.mem_append_right _ h))⟩⟩⟩) (by decide +kernel)
def wm_X12_shuts : List Cond := .code yX12_shuts cX12_shuts 3 (some .boolean) :: (([.fieldLink RX12 98 "TalePlayModel" "isBox" "[Z", .fieldLink RX12 56 "TalePlayModel" "nOpen" "[Z", .fieldLink RX12 95 "TalePlayModel" "glass" "[Z"] : List Cond) ++ wsX120)
set_option maxHeartbeats 4000000 in
set_option maxRecDepth 100000 in
theorem s_X12_shuts (l : Launch) (D : va_G) (sz : Nat) (o : Nat) (a : Nat → Nat) (t : Nat → ClassId) (i : Nat → Int32) (q : Int64) (c : Nat → Nat → Int32) (d : Nat → Nat → Int64) (w : Int32) (b1 : Int32) (hI : mInv i c) (hw : 0 ≤ w.toInt ∧ w.toInt ≤ 29) : Met l yX12_shuts wm_X12_shuts ({ frames := 0, cells := 0, slots := 0, locals := 0 }) (va_Pc [.ref o, .int w, .int b1] (pA D sz (mW o a t i q c d) (mT t))) (va_Qi (fun (r : Int32) (_ : Unit) => (0 ≤ r.toInt ∧ r.toInt ≤ 1)) oA (ro sz)) 0 0 (ro sz) := by
  refine Met.ofW (cc := cX12_shuts) (maxL := 3) (ret := (some .boolean)) (by decide +kernel) rfl ?_
  intro p e s m args below meth cd s₁ B hml hv
  obtain ⟨rfl, hsz, hP, hK⟩ := hv
  have hx := B.exec
  have hb := B.bytes
  have hr := B.returns
  have hts := atoms_spec (ws := wm_X12_shuts) B.pre
  have hown : s.vm.findClass RX12 = some m.cls := findClass_of_methodNamed B.named
  have hlocks := B.notSynchronized
  subst hsz
  have hA : ∀ q : Nat, s.heap.size ≤ q → ro s.heap.size q := fun _ h => h
  have hS : va_S (ro s.heap.size) s.heap s.heap [] := va_S.rf
  have hl := lv_entry ([.ref o, .int w, .int b1]) (n := 3) (Nat.le_of_ble_eq_true rfl)
  rw [lg_entry_eq]
  generalize (lg_sl ([.ref o, .int w, .int b1]) ++ List.replicate (3 - (lg_sl ([.ref o, .int w, .int b1])).length) Slot.unset).toArray = ls at hl ⊢
  have hl : lv_has ls 3 [(0, .ref o), (1, .int w), (2, .int b1)] := hl
  refine lv_aload_n hx hb dX12_shuts_0 rfl (lv_at hl 0 rfl) ?_
  refine mget_47 hx hb hts (fun _ h => List.mem_cons_of_mem _ (List.mem_append_right _ h)) hown hK hP (hts (.fieldLink RX12 98 "TalePlayModel" "isBox" "[Z") (List.mem_cons_of_mem _ (List.mem_append_left _ (List.mem_of_getElem? (i := 0) rfl)))) dX12_shuts_1 ?_
  refine lv_iload_n hx hb dX12_shuts_4 rfl (lv_at hl 1 rfl) ?_
  refine mld_47 hx hb hK hP (vp_in_iff.mpr (by have h9 : w.toInt = w.toInt := rfl; omega)) dX12_shuts_5 (fun x1 ex1 => ?_)
  have rx1 : 0 ≤ x1.toInt ∧ x1.toInt ≤ 1 := by rw [ex1]; exact hI.2 47 _
  refine lv_if_eq (tgt := 35) hx hb dX12_shuts_6 (by decide +kernel) (fun c2 => ?_) (fun c2 => ?_)
  · have f2 := (ti_eq (a := x1.toInt) (b := 0) rfl (by decide +kernel)).mp c2
    refine lv_iconst (v := 0) hx hb dX12_shuts_35 (by decide +kernel) ?_
    exact ro_zret hx hb hr hlocks hS rfl dX12_shuts_36 (show 0 ≤ (0 : Int32).toInt ∧ (0 : Int32).toInt ≤ 1 from by decide +kernel)
  · have f2 := mt (ti_eq (a := x1.toInt) (b := 0) rfl (by decide +kernel)).mpr c2
    refine lv_aload_n hx hb dX12_shuts_9 rfl (lv_at hl 0 rfl) ?_
    refine mget_25 hx hb hts (fun _ h => List.mem_cons_of_mem _ (List.mem_append_right _ h)) hown hK hP (hts (.fieldLink RX12 56 "TalePlayModel" "nOpen" "[Z") (List.mem_cons_of_mem _ (List.mem_append_left _ (List.mem_of_getElem? (i := 1) rfl)))) dX12_shuts_10 ?_
    refine lv_iload_n hx hb dX12_shuts_13 rfl (lv_at hl 1 rfl) ?_
    refine mld_25 hx hb hK hP (vp_in_iff.mpr (by have h9 : w.toInt = w.toInt := rfl; omega)) dX12_shuts_14 (fun x3 ex3 => ?_)
    have rx3 : 0 ≤ x3.toInt ∧ x3.toInt ≤ 1 := by rw [ex3]; exact hI.2 25 _
    refine lv_if_ne (tgt := 35) hx hb dX12_shuts_15 (by decide +kernel) (fun c4 => ?_) (fun c4 => ?_)
    · have f4 := mt (ti_eq (a := x3.toInt) (b := 0) rfl (by decide +kernel)).mpr c4
      refine lv_iconst (v := 0) hx hb dX12_shuts_35 (by decide +kernel) ?_
      exact ro_zret hx hb hr hlocks hS rfl dX12_shuts_36 (show 0 ≤ (0 : Int32).toInt ∧ (0 : Int32).toInt ≤ 1 from by decide +kernel)
    · have f4 := (ti_eq (a := x3.toInt) (b := 0) rfl (by decide +kernel)).mp c4
      refine lv_iload_n hx hb dX12_shuts_18 rfl (lv_at hl 2 rfl) ?_
      refine lv_if_ne (tgt := 31) hx hb dX12_shuts_19 (by decide +kernel) (fun c5 => ?_) (fun c5 => ?_)
      · have f5 := mt (ti_eq (a := b1.toInt) (b := 0) rfl (by decide +kernel)).mpr c5
        refine lv_iconst (v := 1) hx hb dX12_shuts_31 (by decide +kernel) ?_
        refine lv_goto (tgt := 36) hx hb dX12_shuts_32 (by decide +kernel) ?_
        exact ro_zret hx hb hr hlocks hS rfl dX12_shuts_36 (show 0 ≤ (1 : Int32).toInt ∧ (1 : Int32).toInt ≤ 1 from by decide +kernel)
      · have f5 := (ti_eq (a := b1.toInt) (b := 0) rfl (by decide +kernel)).mp c5
        refine lv_aload_n hx hb dX12_shuts_22 rfl (lv_at hl 0 rfl) ?_
        refine mget_46 hx hb hts (fun _ h => List.mem_cons_of_mem _ (List.mem_append_right _ h)) hown hK hP (hts (.fieldLink RX12 95 "TalePlayModel" "glass" "[Z") (List.mem_cons_of_mem _ (List.mem_append_left _ (List.mem_of_getElem? (i := 2) rfl)))) dX12_shuts_23 ?_
        refine lv_iload_n hx hb dX12_shuts_26 rfl (lv_at hl 1 rfl) ?_
        refine mld_46 hx hb hK hP (vp_in_iff.mpr (by have h9 : w.toInt = w.toInt := rfl; omega)) dX12_shuts_27 (fun x6 ex6 => ?_)
        have rx6 : 0 ≤ x6.toInt ∧ x6.toInt ≤ 1 := by rw [ex6]; exact hI.2 46 _
        refine lv_if_ne (tgt := 35) hx hb dX12_shuts_28 (by decide +kernel) (fun c7 => ?_) (fun c7 => ?_)
        · have f7 := mt (ti_eq (a := x6.toInt) (b := 0) rfl (by decide +kernel)).mpr c7
          refine lv_iconst (v := 0) hx hb dX12_shuts_35 (by decide +kernel) ?_
          exact ro_zret hx hb hr hlocks hS rfl dX12_shuts_36 (show 0 ≤ (0 : Int32).toInt ∧ (0 : Int32).toInt ≤ 1 from by decide +kernel)
        · have f7 := (ti_eq (a := x6.toInt) (b := 0) rfl (by decide +kernel)).mp c7
          refine lv_iconst (v := 1) hx hb dX12_shuts_31 (by decide +kernel) ?_
          refine lv_goto (tgt := 36) hx hb dX12_shuts_32 (by decide +kernel) ?_
          exact ro_zret hx hb hr hlocks hS rfl dX12_shuts_36 (show 0 ≤ (1 : Int32).toInt ∧ (1 : Int32).toInt ≤ 1 from by decide +kernel)

def wm_X12_holds : List Cond := .code yX12_holds cX12_holds 2 (some .boolean) :: (([.fieldLink RX12 50 "TalePlayModel" "nForm" "[I", .fieldLink RX12 53 "TalePlayModel" "nAt" "[I", .fieldLink RX12 155 "TalePlayModel" "player" "I"] : List Cond) ++ wsX120)
set_option maxHeartbeats 4000000 in
set_option maxRecDepth 100000 in
theorem s_X12_holds (l : Launch) (D : va_G) (sz : Nat) (o : Nat) (a : Nat → Nat) (t : Nat → ClassId) (i : Nat → Int32) (q : Int64) (c : Nat → Nat → Int32) (d : Nat → Nat → Int64) (w : Int32) (hI : mInv i c) (hw : 0 ≤ w.toInt ∧ w.toInt ≤ 29) : Met l yX12_holds wm_X12_holds ({ frames := 0, cells := 0, slots := 0, locals := 0 }) (va_Pc [.ref o, .int w] (pA D sz (mW o a t i q c d) (mT t))) (va_Qi (fun (r : Int32) (_ : Unit) => ((0 ≤ r.toInt ∧ r.toInt ≤ 1) ∧ (Im (r.toInt = 1) ((c 23 w.toNatClampNeg).toInt = 2 ∧ (c 24 w.toNatClampNeg).toInt = (i 22).toInt)))) oA (ro sz)) 0 0 (ro sz) := by
  refine Met.ofW (cc := cX12_holds) (maxL := 2) (ret := (some .boolean)) (by decide +kernel) rfl ?_
  intro p e s m args below meth cd s₁ B hml hv
  obtain ⟨rfl, hsz, hP, hK⟩ := hv
  have hx := B.exec
  have hb := B.bytes
  have hr := B.returns
  have hts := atoms_spec (ws := wm_X12_holds) B.pre
  have hown : s.vm.findClass RX12 = some m.cls := findClass_of_methodNamed B.named
  have hlocks := B.notSynchronized
  subst hsz
  have hA : ∀ q : Nat, s.heap.size ≤ q → ro s.heap.size q := fun _ h => h
  have hS : va_S (ro s.heap.size) s.heap s.heap [] := va_S.rf
  have hl := lv_entry ([.ref o, .int w]) (n := 2) (Nat.le_of_ble_eq_true rfl)
  rw [lg_entry_eq]
  generalize (lg_sl ([.ref o, .int w]) ++ List.replicate (2 - (lg_sl ([.ref o, .int w])).length) Slot.unset).toArray = ls at hl ⊢
  have hl : lv_has ls 2 [(0, .ref o), (1, .int w)] := hl
  refine lv_aload_n hx hb dX12_holds_0 rfl (lv_at hl 0 rfl) ?_
  refine mget_23 hx hb hts (fun _ h => List.mem_cons_of_mem _ (List.mem_append_right _ h)) hown hK hP (hts (.fieldLink RX12 50 "TalePlayModel" "nForm" "[I") (List.mem_cons_of_mem _ (List.mem_append_left _ (List.mem_of_getElem? (i := 0) rfl)))) dX12_holds_1 ?_
  refine lv_iload_n hx hb dX12_holds_4 rfl (lv_at hl 1 rfl) ?_
  refine mld_23 hx hb hK hP (vp_in_iff.mpr (by have h9 : w.toInt = w.toInt := rfl; omega)) dX12_holds_5 (fun x1 ex1 => ?_)
  have rx1 : x1.toInt = -9 ∨ (0 ≤ x1.toInt ∧ x1.toInt ≤ 4) := by rw [ex1]; exact hI.2 23 _
  have gx1 : (c 23 (w : Int32).toNatClampNeg).toInt = x1.toInt := by rw [ex1]
  refine lv_iconst (v := 2) hx hb dX12_holds_6 (by decide +kernel) ?_
  refine lv_icmp_ne (tgt := 27) hx hb dX12_holds_7 (by decide +kernel) (fun c2 => ?_) (fun c2 => ?_)
  · have f2 := mt (ti_eq (a := x1.toInt) (b := 2) rfl (by decide +kernel)).mpr c2
    refine lv_iconst (v := 0) hx hb dX12_holds_27 (by decide +kernel) ?_
    exact ro_zret hx hb hr hlocks hS rfl dX12_holds_28 ⟨(show 0 ≤ (0 : Int32).toInt ∧ (0 : Int32).toInt ≤ 1 from by decide +kernel), (show Im ((0 : Int32).toInt = 1) ((c 23 w.toNatClampNeg).toInt = 2 ∧ (c 24 w.toNatClampNeg).toInt = (i 22).toInt) from fun h9 => absurd h9 (by decide +kernel))⟩
  · have f2 := (ti_eq (a := x1.toInt) (b := 2) rfl (by decide +kernel)).mp c2
    refine lv_aload_n hx hb dX12_holds_10 rfl (lv_at hl 0 rfl) ?_
    refine mget_24 hx hb hts (fun _ h => List.mem_cons_of_mem _ (List.mem_append_right _ h)) hown hK hP (hts (.fieldLink RX12 53 "TalePlayModel" "nAt" "[I") (List.mem_cons_of_mem _ (List.mem_append_left _ (List.mem_of_getElem? (i := 1) rfl)))) dX12_holds_11 ?_
    refine lv_iload_n hx hb dX12_holds_14 rfl (lv_at hl 1 rfl) ?_
    refine mld_24 hx hb hK hP (vp_in_iff.mpr (by have h9 : w.toInt = w.toInt := rfl; omega)) dX12_holds_15 (fun x3 ex3 => ?_)
    have rx3 : x3.toInt = -9 ∨ (0 ≤ x3.toInt ∧ x3.toInt ≤ 29) := by rw [ex3]; exact hI.2 24 _
    have gx3 : (c 24 (w : Int32).toNatClampNeg).toInt = x3.toInt := by rw [ex3]
    refine lv_aload_n hx hb dX12_holds_16 rfl (lv_at hl 0 rfl) ?_
    refine mget_22 (v := (i 22)) rfl hx hb hts (fun _ h => List.mem_cons_of_mem _ (List.mem_append_right _ h)) hown hK hP (hts (.fieldLink RX12 155 "TalePlayModel" "player" "I") (List.mem_cons_of_mem _ (List.mem_append_left _ (List.mem_of_getElem? (i := 2) rfl)))) dX12_holds_17 ?_
    have rb22_i : (i 22).toInt = -9 ∨ (0 ≤ (i 22).toInt ∧ (i 22).toInt ≤ 29) := hI.1 22
    refine lv_icmp_ne (tgt := 27) hx hb dX12_holds_20 (by decide +kernel) (fun c4 => ?_) (fun c4 => ?_)
    · have f4 := mt (ti_eq (a := x3.toInt) (b := (i 22).toInt) rfl rfl).mpr c4
      refine lv_iconst (v := 0) hx hb dX12_holds_27 (by decide +kernel) ?_
      exact ro_zret hx hb hr hlocks hS rfl dX12_holds_28 ⟨(show 0 ≤ (0 : Int32).toInt ∧ (0 : Int32).toInt ≤ 1 from by decide +kernel), (show Im ((0 : Int32).toInt = 1) ((c 23 w.toNatClampNeg).toInt = 2 ∧ (c 24 w.toNatClampNeg).toInt = (i 22).toInt) from fun h9 => absurd h9 (by decide +kernel))⟩
    · have f4 := (ti_eq (a := x3.toInt) (b := (i 22).toInt) rfl rfl).mp c4
      refine lv_iconst (v := 1) hx hb dX12_holds_23 (by decide +kernel) ?_
      refine lv_goto (tgt := 28) hx hb dX12_holds_24 (by decide +kernel) ?_
      exact ro_zret hx hb hr hlocks hS rfl dX12_holds_28 ⟨(show 0 ≤ (1 : Int32).toInt ∧ (1 : Int32).toInt ≤ 1 from by decide +kernel), (show Im ((1 : Int32).toInt = 1) ((c 23 w.toNatClampNeg).toInt = 2 ∧ (c 24 w.toNatClampNeg).toInt = (i 22).toInt) from fun _ => by omega)⟩

def wm_X12_lying : List Cond := .code yX12_lying cX12_lying 5 (some .int) :: (([.fieldLink RX12 177 "TalePlayModel" "objects" "I", .fieldLink RX12 50 "TalePlayModel" "nForm" "[I", .fieldLink RX12 53 "TalePlayModel" "nAt" "[I"] : List Cond) ++ wsX120)
set_option maxHeartbeats 4000000 in
set_option maxRecDepth 100000 in
theorem s_X12_lying (l : Launch) (D : va_G) (sz : Nat) (o : Nat) (a : Nat → Nat) (t : Nat → ClassId) (i : Nat → Int32) (q : Int64) (c : Nat → Nat → Int32) (d : Nat → Nat → Int64) (f : Int32) (w : Int32) (hI : mInv i c) : Met l yX12_lying wm_X12_lying ({ frames := 0, cells := 0, slots := 0, locals := 0 }) (va_Pc [.ref o, .int f, .int w] (pA D sz (mW o a t i q c d) (mT t))) (va_Qi (fun (r : Int32) (_ : Unit) => (0 ≤ r.toInt ∧ r.toInt ≤ 30)) oA (ro sz)) 0 0 (ro sz) := by
  refine Met.ofW (cc := cX12_lying) (maxL := 5) (ret := (some .int)) (by decide +kernel) rfl ?_
  intro p e s m args below meth cd s₁ B hml hv
  obtain ⟨rfl, hsz, hP, hK⟩ := hv
  have hx := B.exec
  have hb := B.bytes
  have hr := B.returns
  have hts := atoms_spec (ws := wm_X12_lying) B.pre
  have hown : s.vm.findClass RX12 = some m.cls := findClass_of_methodNamed B.named
  have hlocks := B.notSynchronized
  subst hsz
  have hA : ∀ q : Nat, s.heap.size ≤ q → ro s.heap.size q := fun _ h => h
  have hS : va_S (ro s.heap.size) s.heap s.heap [] := va_S.rf
  have hl := lv_entry ([.ref o, .int f, .int w]) (n := 5) (Nat.le_of_ble_eq_true rfl)
  rw [lg_entry_eq]
  generalize (lg_sl ([.ref o, .int f, .int w]) ++ List.replicate (5 - (lg_sl ([.ref o, .int f, .int w])).length) Slot.unset).toArray = ls at hl ⊢
  have hl : lv_has ls 5 [(0, .ref o), (1, .int f), (2, .int w)] := hl
  refine lv_iconst (v := 0) hx hb dX12_lying_0 (by decide +kernel) ?_
  refine lv_istore_n (lv' := [(3, .int 0), (0, .ref o), (1, .int f), (2, .int w)]) hx hb dX12_lying_1 rfl hl (by decide +kernel) rfl (fun ls hl => ?_)
  refine lv_iconst (v := 0) hx hb dX12_lying_2 (by decide +kernel) ?_
  refine lv_istore (lv' := [(4, .int 0), (3, .int 0), (0, .ref o), (1, .int f), (2, .int w)]) hx hb dX12_lying_3 hl (by decide +kernel) rfl (fun ls hl => ?_)
  have lp1 : ∀ (fu : Nat) (y1_4 : Int32) (y1_3 : Int32), (0 ≤ y1_4.toInt ∧ y1_4.toInt ≤ 30) → (0 ≤ y1_3.toInt ∧ y1_3.toInt ≤ y1_4.toInt) → (30 - y1_4.toInt).toNat < fu → ∀ (H : Heap) (locs : List Loc) (ls : Array Slot), va_P D vwCl (mW o a t i q c d) H → va_S (ro s.heap.size) s.heap H locs → lv_has ls 5 [(4, .int y1_4), (3, .int y1_3), (0, .ref o), (1, .int f), (2, .int w)] → W p l e (headSpec wm_X12_lying ({ frames := 0, cells := 0, slots := 0, locals := 0 })).room s m ([.ref o, .int f, .int w] : List Value).toArray below meth cd H locs 0 0 (MQ below (va_Qi (fun (r : Int32) (_ : Unit) => (0 ≤ r.toInt ∧ r.toInt ≤ 30)) oA (ro s.heap.size)) ([.ref o, .int f, .int w] : List Value).toArray s 0 0 (ro s.heap.size)) (F0 m 5 ls []) := by
    intro fu
    induction fu with
    | zero => intro y1_4 y1_3 hy1_4 hy1_3 hm; exact absurd hm (Nat.not_lt_zero _)
    | succ fu ih =>
      intro y1_4 y1_3 hy1_4 hy1_3 hm H locs ls hP hS hl
      have ih1 := ih
      refine lv_iload hx hb dX12_lying_5 (lv_at hl 0 rfl) ?_
      refine lv_aload_n hx hb dX12_lying_7 rfl (lv_at hl 2 rfl) ?_
      refine mget_5 (v := (i 5)) rfl hx hb hts (fun _ h => List.mem_cons_of_mem _ (List.mem_append_right _ h)) hown hK hP (hts (.fieldLink RX12 177 "TalePlayModel" "objects" "I") (List.mem_cons_of_mem _ (List.mem_append_left _ (List.mem_of_getElem? (i := 0) rfl)))) dX12_lying_8 ?_
      have rb5_i : 0 ≤ (i 5).toInt ∧ (i 5).toInt ≤ 30 := hI.1 5
      refine lv_icmp_ge (tgt := 50) hx hb dX12_lying_11 (by decide +kernel) (fun c2 => ?_) (fun c2 => ?_)
      · have f2 := (ti_le (a := (i 5).toInt) (b := y1_4.toInt) rfl rfl).mp c2
        refine lv_iload_n hx hb dX12_lying_50 rfl (lv_at hl 1 rfl) ?_
        exact ro_iret hx hb hr hlocks hS dX12_lying_51 (show 0 ≤ y1_3.toInt ∧ y1_3.toInt ≤ 30 from by omega)
      · have f2 := mt (ti_le (a := (i 5).toInt) (b := y1_4.toInt) rfl rfl).mpr c2
        refine lv_iload_n hx hb dX12_lying_14 rfl (lv_at hl 1 rfl) ?_
        refine lv_aload_n hx hb dX12_lying_15 rfl (lv_at hl 2 rfl) ?_
        refine mget_23 hx hb hts (fun _ h => List.mem_cons_of_mem _ (List.mem_append_right _ h)) hown hK hP (hts (.fieldLink RX12 50 "TalePlayModel" "nForm" "[I") (List.mem_cons_of_mem _ (List.mem_append_left _ (List.mem_of_getElem? (i := 1) rfl)))) dX12_lying_16 ?_
        refine lv_iload hx hb dX12_lying_19 (lv_at hl 0 rfl) ?_
        refine mld_23 hx hb hK hP (vp_in_iff.mpr (by have h9 : y1_4.toInt = y1_4.toInt := rfl; omega)) dX12_lying_21 (fun x3 ex3 => ?_)
        have rx3 : x3.toInt = -9 ∨ (0 ≤ x3.toInt ∧ x3.toInt ≤ 4) := by rw [ex3]; exact hI.2 23 _
        refine lv_iload_n hx hb dX12_lying_22 rfl (lv_at hl 3 rfl) ?_
        have jn4 : ∀ (z4_0 : Int32), (z4_0.toInt = 0 ∨ z4_0.toInt = 1) → ∀ (H : Heap) (locs : List Loc) (ls : Array Slot), va_P D vwCl (mW o a t i q c d) H → va_S (ro s.heap.size) s.heap H locs → lv_has ls 5 [(4, .int y1_4), (3, .int y1_3), (0, .ref o), (1, .int f), (2, .int w)] → W p l e (headSpec wm_X12_lying ({ frames := 0, cells := 0, slots := 0, locals := 0 })).room s m ([.ref o, .int f, .int w] : List Value).toArray below meth cd H locs 0 0 (MQ below (va_Qi (fun (r : Int32) (_ : Unit) => (0 ≤ r.toInt ∧ r.toInt ≤ 30)) oA (ro s.heap.size)) ([.ref o, .int f, .int w] : List Value).toArray s 0 0 (ro s.heap.size)) (F0 m 42 ls [.int z4_0, .int y1_3]) := by
          intro z4_0 hs4_0 H locs ls hP hS hl
          refine lv_iadd hx hb dX12_lying_42 ?_
          refine lv_topi (fun x5 ex5 => ?_)
          have tx5 := ti_add (a := y1_3.toInt) (b := z4_0.toInt) ex5 rfl rfl (by omega) (by omega)
          refine lv_istore_n (lv' := [(3, .int x5), (4, .int y1_4), (0, .ref o), (1, .int f), (2, .int w)]) hx hb dX12_lying_43 rfl hl (by decide +kernel) rfl (fun ls hl => ?_)
          obtain ⟨x6, ex6⟩ : ∃ y : Int32, y = y1_4 + 1 := ⟨_, rfl⟩
          have tx6 := ti_add (a := y1_4.toInt) (b := 1) ex6 rfl (by decide +kernel) (by omega) (by omega)
          refine lv_iinc (v := x6) (lv' := [(4, .int x6), (3, .int x5), (0, .ref o), (1, .int f), (2, .int w)]) hx hb dX12_lying_44 hl (k := 1) rfl (by rw [ex6]; rfl) (by decide +kernel) rfl (fun ls hl => ?_)
          refine lv_goto (tgt := 5) hx hb dX12_lying_47 (by decide +kernel) ?_
          exact ih1 x6 x5 (show 0 ≤ x6.toInt ∧ x6.toInt ≤ 30 from by have h50 : x6.toInt = (y1_4.toInt + 1) := tx6; have h51 : x5.toInt = (y1_3.toInt + z4_0.toInt) := tx5; omega) (show 0 ≤ x5.toInt ∧ x5.toInt ≤ x6.toInt from by have h50 : x6.toInt = (y1_4.toInt + 1) := tx6; have h51 : x5.toInt = (y1_3.toInt + z4_0.toInt) := tx5; omega) (by have h50 : x6.toInt = (y1_4.toInt + 1) := tx6; have h51 : x5.toInt = (y1_3.toInt + z4_0.toInt) := tx5; omega) _ _ _ hP hS (lv_sub hl [0, 1, 2, 3, 4] rfl)
        have jn7 : ∀ (H : Heap) (locs : List Loc) (ls : Array Slot), va_P D vwCl (mW o a t i q c d) H → va_S (ro s.heap.size) s.heap H locs → lv_has ls 5 [(4, .int y1_4), (3, .int y1_3), (0, .ref o), (1, .int f), (2, .int w)] → W p l e (headSpec wm_X12_lying ({ frames := 0, cells := 0, slots := 0, locals := 0 })).room s m ([.ref o, .int f, .int w] : List Value).toArray below meth cd H locs 0 0 (MQ below (va_Qi (fun (r : Int32) (_ : Unit) => (0 ≤ r.toInt ∧ r.toInt ≤ 30)) oA (ro s.heap.size)) ([.ref o, .int f, .int w] : List Value).toArray s 0 0 (ro s.heap.size)) (F0 m 41 ls [.int y1_3]) := by
          intro H locs ls hP hS hl
          refine lv_iconst (v := 0) hx hb dX12_lying_41 (by decide +kernel) ?_
          exact jn4  (0 : Int32) (show (0 : Int32).toInt = 0 ∨ (0 : Int32).toInt = 1 from by decide +kernel) _ _ _ hP hS (lv_sub hl [0, 1, 2, 3, 4] rfl)
        refine lv_icmp_ne (tgt := 41) hx hb dX12_lying_23 (by decide +kernel) (fun c8 => ?_) (fun c8 => ?_)
        · have f8 := mt (ti_eq (a := x3.toInt) (b := f.toInt) rfl rfl).mpr c8
          exact jn7    _ _ _ hP hS (lv_sub hl [0, 1, 2, 3, 4] rfl)
        · have f8 := (ti_eq (a := x3.toInt) (b := f.toInt) rfl rfl).mp c8
          refine lv_aload_n hx hb dX12_lying_26 rfl (lv_at hl 2 rfl) ?_
          refine mget_24 hx hb hts (fun _ h => List.mem_cons_of_mem _ (List.mem_append_right _ h)) hown hK hP (hts (.fieldLink RX12 53 "TalePlayModel" "nAt" "[I") (List.mem_cons_of_mem _ (List.mem_append_left _ (List.mem_of_getElem? (i := 2) rfl)))) dX12_lying_27 ?_
          refine lv_iload hx hb dX12_lying_30 (lv_at hl 0 rfl) ?_
          refine mld_24 hx hb hK hP (vp_in_iff.mpr (by have h9 : y1_4.toInt = y1_4.toInt := rfl; omega)) dX12_lying_32 (fun x9 ex9 => ?_)
          have rx9 : x9.toInt = -9 ∨ (0 ≤ x9.toInt ∧ x9.toInt ≤ 29) := by rw [ex9]; exact hI.2 24 _
          refine lv_iload_n hx hb dX12_lying_33 rfl (lv_at hl 4 rfl) ?_
          refine lv_icmp_ne (tgt := 41) hx hb dX12_lying_34 (by decide +kernel) (fun c10 => ?_) (fun c10 => ?_)
          · have f10 := mt (ti_eq (a := x9.toInt) (b := w.toInt) rfl rfl).mpr c10
            exact jn7    _ _ _ hP hS (lv_sub hl [0, 1, 2, 3, 4] rfl)
          · have f10 := (ti_eq (a := x9.toInt) (b := w.toInt) rfl rfl).mp c10
            refine lv_iconst (v := 1) hx hb dX12_lying_37 (by decide +kernel) ?_
            refine lv_goto (tgt := 42) hx hb dX12_lying_38 (by decide +kernel) ?_
            exact jn4  (1 : Int32) (show (1 : Int32).toInt = 0 ∨ (1 : Int32).toInt = 1 from by decide +kernel) _ _ _ hP hS (lv_sub hl [0, 1, 2, 3, 4] rfl)
  exact lp1 _ (0 : Int32) (0 : Int32) (show 0 ≤ (0 : Int32).toInt ∧ (0 : Int32).toInt ≤ 30 from by decide +kernel) (show 0 ≤ (0 : Int32).toInt ∧ (0 : Int32).toInt ≤ (0 : Int32).toInt from by decide +kernel) (Nat.lt_succ_self _) _ _ _ hP hS (lv_sub hl [0, 1, 2, 3, 4] rfl)

def wm_X12_isState : List Cond := .code yX12_isState cX12_isState 3 (some .boolean) :: (([.fieldLink RX12 177 "TalePlayModel" "objects" "I", .fieldLink RX12 107 "TalePlayModel" "stateForm" "[B", .fieldLink RX12 50 "TalePlayModel" "nForm" "[I", .fieldLink RX12 111 "TalePlayModel" "stateAt" "[B", .fieldLink RX12 53 "TalePlayModel" "nAt" "[I", .fieldLink RX12 114 "TalePlayModel" "stateShut" "[B", .fieldLink RX12 56 "TalePlayModel" "nOpen" "[Z", .fieldLink RX12 59 "TalePlayModel" "nLocked" "[Z"] : List Cond) ++ wsX120)
set_option maxHeartbeats 4000000 in
set_option maxRecDepth 100000 in
theorem s_X12_isState (l : Launch) (D : va_G) (sz : Nat) (o : Nat) (a : Nat → Nat) (t : Nat → ClassId) (i : Nat → Int32) (q : Int64) (c : Nat → Nat → Int32) (d : Nat → Nat → Int64) (s1 : Int32) (hI : mInv i c) (hs1 : 0 ≤ s1.toInt ∧ s1.toInt ≤ 300) : Met l yX12_isState wm_X12_isState ({ frames := 0, cells := 0, slots := 0, locals := 0 }) (va_Pc [.ref o, .int s1] (pA D sz (mW o a t i q c d) (mT t))) (va_Qi (fun (r : Int32) (_ : Unit) => (0 ≤ r.toInt ∧ r.toInt ≤ 1)) oA (ro sz)) 0 0 (ro sz) := by
  refine Met.ofW (cc := cX12_isState) (maxL := 3) (ret := (some .boolean)) (by decide +kernel) rfl ?_
  intro p e s m args below meth cd s₁ B hml hv
  obtain ⟨rfl, hsz, hP, hK⟩ := hv
  have hx := B.exec
  have hb := B.bytes
  have hr := B.returns
  have hts := atoms_spec (ws := wm_X12_isState) B.pre
  have hown : s.vm.findClass RX12 = some m.cls := findClass_of_methodNamed B.named
  have hlocks := B.notSynchronized
  subst hsz
  have hA : ∀ q : Nat, s.heap.size ≤ q → ro s.heap.size q := fun _ h => h
  have hS : va_S (ro s.heap.size) s.heap s.heap [] := va_S.rf
  have hl := lv_entry ([.ref o, .int s1]) (n := 3) (Nat.le_of_ble_eq_true rfl)
  rw [lg_entry_eq]
  generalize (lg_sl ([.ref o, .int s1]) ++ List.replicate (3 - (lg_sl ([.ref o, .int s1])).length) Slot.unset).toArray = ls at hl ⊢
  have hl : lv_has ls 3 [(0, .ref o), (1, .int s1)] := hl
  refine lv_iconst (v := 0) hx hb dX12_isState_0 (by decide +kernel) ?_
  refine lv_istore_n (lv' := [(2, .int 0), (0, .ref o), (1, .int s1)]) hx hb dX12_isState_1 rfl hl (by decide +kernel) rfl (fun ls hl => ?_)
  have lp1 : ∀ (fu : Nat) (y1_2 : Int32), (0 ≤ y1_2.toInt ∧ y1_2.toInt ≤ 30) → (30 - y1_2.toInt).toNat < fu → ∀ (H : Heap) (locs : List Loc) (ls : Array Slot), va_P D vwCl (mW o a t i q c d) H → va_S (ro s.heap.size) s.heap H locs → lv_has ls 3 [(2, .int y1_2), (0, .ref o), (1, .int s1)] → W p l e (headSpec wm_X12_isState ({ frames := 0, cells := 0, slots := 0, locals := 0 })).room s m ([.ref o, .int s1] : List Value).toArray below meth cd H locs 0 0 (MQ below (va_Qi (fun (r : Int32) (_ : Unit) => (0 ≤ r.toInt ∧ r.toInt ≤ 1)) oA (ro s.heap.size)) ([.ref o, .int s1] : List Value).toArray s 0 0 (ro s.heap.size)) (F0 m 2 ls []) := by
    intro fu
    induction fu with
    | zero => intro y1_2 hy1_2 hm; exact absurd hm (Nat.not_lt_zero _)
    | succ fu ih =>
      intro y1_2 hy1_2 hm H locs ls hP hS hl
      have ih1 := ih
      refine lv_iload_n hx hb dX12_isState_2 rfl (lv_at hl 0 rfl) ?_
      refine lv_aload_n hx hb dX12_isState_3 rfl (lv_at hl 1 rfl) ?_
      refine mget_5 (v := (i 5)) rfl hx hb hts (fun _ h => List.mem_cons_of_mem _ (List.mem_append_right _ h)) hown hK hP (hts (.fieldLink RX12 177 "TalePlayModel" "objects" "I") (List.mem_cons_of_mem _ (List.mem_append_left _ (List.mem_of_getElem? (i := 0) rfl)))) dX12_isState_4 ?_
      have rb5_i : 0 ≤ (i 5).toInt ∧ (i 5).toInt ≤ 30 := hI.1 5
      refine lv_icmp_ge (tgt := 101) hx hb dX12_isState_7 (by decide +kernel) (fun c2 => ?_) (fun c2 => ?_)
      · have f2 := (ti_le (a := (i 5).toInt) (b := y1_2.toInt) rfl rfl).mp c2
        refine lv_iconst (v := 1) hx hb dX12_isState_101 (by decide +kernel) ?_
        exact ro_zret hx hb hr hlocks hS rfl dX12_isState_102 (show 0 ≤ (1 : Int32).toInt ∧ (1 : Int32).toInt ≤ 1 from by decide +kernel)
      · have f2 := mt (ti_le (a := (i 5).toInt) (b := y1_2.toInt) rfl rfl).mpr c2
        refine lv_aload_n hx hb dX12_isState_10 rfl (lv_at hl 1 rfl) ?_
        refine mget_51 hx hb hts (fun _ h => List.mem_cons_of_mem _ (List.mem_append_right _ h)) hown hK hP (hts (.fieldLink RX12 107 "TalePlayModel" "stateForm" "[B") (List.mem_cons_of_mem _ (List.mem_append_left _ (List.mem_of_getElem? (i := 1) rfl)))) dX12_isState_11 ?_
        refine lv_bipush (v := 30) hx hb dX12_isState_14 (by decide +kernel) ?_
        refine lv_iload_n hx hb dX12_isState_16 rfl (lv_at hl 2 rfl) ?_
        refine lv_imul hx hb dX12_isState_17 ?_
        refine lv_topi (fun x3 ex3 => ?_)
        have tx3 := ti_mul (a := 30) (b := s1.toInt) ex3 (by decide +kernel) rfl (by omega) (by omega)
        refine lv_iload_n hx hb dX12_isState_18 rfl (lv_at hl 0 rfl) ?_
        refine lv_iadd hx hb dX12_isState_19 ?_
        refine lv_topi (fun x4 ex4 => ?_)
        have tx4 := ti_add (a := (30 * s1.toInt)) (b := y1_2.toInt) ex4 tx3 rfl (by omega) (by omega)
        refine mld_51 hx hb hK hP (vp_in_iff.mpr (by have h9 : x4.toInt = ((30 * s1.toInt) + y1_2.toInt) := tx4; omega)) dX12_isState_20 (fun x5 ex5 => ?_)
        have rx5 : x5.toInt = -9 ∨ (0 ≤ x5.toInt ∧ x5.toInt ≤ 4) := by rw [ex5]; exact hI.2 51 _
        refine lv_aload_n hx hb dX12_isState_21 rfl (lv_at hl 1 rfl) ?_
        refine mget_23 hx hb hts (fun _ h => List.mem_cons_of_mem _ (List.mem_append_right _ h)) hown hK hP (hts (.fieldLink RX12 50 "TalePlayModel" "nForm" "[I") (List.mem_cons_of_mem _ (List.mem_append_left _ (List.mem_of_getElem? (i := 2) rfl)))) dX12_isState_22 ?_
        refine lv_iload_n hx hb dX12_isState_25 rfl (lv_at hl 0 rfl) ?_
        refine mld_23 hx hb hK hP (vp_in_iff.mpr (by have h9 : y1_2.toInt = y1_2.toInt := rfl; omega)) dX12_isState_26 (fun x6 ex6 => ?_)
        have rx6 : x6.toInt = -9 ∨ (0 ≤ x6.toInt ∧ x6.toInt ≤ 4) := by rw [ex6]; exact hI.2 23 _
        refine lv_icmp_ne (tgt := 93) hx hb dX12_isState_27 (by decide +kernel) (fun c7 => ?_) (fun c7 => ?_)
        · have f7 := mt (ti_eq (a := x5.toInt) (b := x6.toInt) rfl rfl).mpr c7
          refine lv_iconst (v := 0) hx hb dX12_isState_93 (by decide +kernel) ?_
          exact ro_zret hx hb hr hlocks hS rfl dX12_isState_94 (show 0 ≤ (0 : Int32).toInt ∧ (0 : Int32).toInt ≤ 1 from by decide +kernel)
        · have f7 := (ti_eq (a := x5.toInt) (b := x6.toInt) rfl rfl).mp c7
          refine lv_aload_n hx hb dX12_isState_30 rfl (lv_at hl 1 rfl) ?_
          refine mget_52 hx hb hts (fun _ h => List.mem_cons_of_mem _ (List.mem_append_right _ h)) hown hK hP (hts (.fieldLink RX12 111 "TalePlayModel" "stateAt" "[B") (List.mem_cons_of_mem _ (List.mem_append_left _ (List.mem_of_getElem? (i := 3) rfl)))) dX12_isState_31 ?_
          refine lv_bipush (v := 30) hx hb dX12_isState_34 (by decide +kernel) ?_
          refine lv_iload_n hx hb dX12_isState_36 rfl (lv_at hl 2 rfl) ?_
          refine lv_imul hx hb dX12_isState_37 ?_
          refine lv_topi (fun x8 ex8 => ?_)
          have tx8 := ti_mul (a := 30) (b := s1.toInt) ex8 (by decide +kernel) rfl (by omega) (by omega)
          refine lv_iload_n hx hb dX12_isState_38 rfl (lv_at hl 0 rfl) ?_
          refine lv_iadd hx hb dX12_isState_39 ?_
          refine lv_topi (fun x9 ex9 => ?_)
          have tx9 := ti_add (a := (30 * s1.toInt)) (b := y1_2.toInt) ex9 tx8 rfl (by omega) (by omega)
          refine mld_52 hx hb hK hP (vp_in_iff.mpr (by have h9 : x9.toInt = ((30 * s1.toInt) + y1_2.toInt) := tx9; omega)) dX12_isState_40 (fun x10 ex10 => ?_)
          have rx10 : x10.toInt = -9 ∨ (0 ≤ x10.toInt ∧ x10.toInt ≤ 29) := by rw [ex10]; exact hI.2 52 _
          refine lv_aload_n hx hb dX12_isState_41 rfl (lv_at hl 1 rfl) ?_
          refine mget_24 hx hb hts (fun _ h => List.mem_cons_of_mem _ (List.mem_append_right _ h)) hown hK hP (hts (.fieldLink RX12 53 "TalePlayModel" "nAt" "[I") (List.mem_cons_of_mem _ (List.mem_append_left _ (List.mem_of_getElem? (i := 4) rfl)))) dX12_isState_42 ?_
          refine lv_iload_n hx hb dX12_isState_45 rfl (lv_at hl 0 rfl) ?_
          refine mld_24 hx hb hK hP (vp_in_iff.mpr (by have h9 : y1_2.toInt = y1_2.toInt := rfl; omega)) dX12_isState_46 (fun x11 ex11 => ?_)
          have rx11 : x11.toInt = -9 ∨ (0 ≤ x11.toInt ∧ x11.toInt ≤ 29) := by rw [ex11]; exact hI.2 24 _
          refine lv_icmp_ne (tgt := 93) hx hb dX12_isState_47 (by decide +kernel) (fun c12 => ?_) (fun c12 => ?_)
          · have f12 := mt (ti_eq (a := x10.toInt) (b := x11.toInt) rfl rfl).mpr c12
            refine lv_iconst (v := 0) hx hb dX12_isState_93 (by decide +kernel) ?_
            exact ro_zret hx hb hr hlocks hS rfl dX12_isState_94 (show 0 ≤ (0 : Int32).toInt ∧ (0 : Int32).toInt ≤ 1 from by decide +kernel)
          · have f12 := (ti_eq (a := x10.toInt) (b := x11.toInt) rfl rfl).mp c12
            refine lv_aload_n hx hb dX12_isState_50 rfl (lv_at hl 1 rfl) ?_
            refine mget_53 hx hb hts (fun _ h => List.mem_cons_of_mem _ (List.mem_append_right _ h)) hown hK hP (hts (.fieldLink RX12 114 "TalePlayModel" "stateShut" "[B") (List.mem_cons_of_mem _ (List.mem_append_left _ (List.mem_of_getElem? (i := 5) rfl)))) dX12_isState_51 ?_
            refine lv_bipush (v := 30) hx hb dX12_isState_54 (by decide +kernel) ?_
            refine lv_iload_n hx hb dX12_isState_56 rfl (lv_at hl 2 rfl) ?_
            refine lv_imul hx hb dX12_isState_57 ?_
            refine lv_topi (fun x13 ex13 => ?_)
            have tx13 := ti_mul (a := 30) (b := s1.toInt) ex13 (by decide +kernel) rfl (by omega) (by omega)
            refine lv_iload_n hx hb dX12_isState_58 rfl (lv_at hl 0 rfl) ?_
            refine lv_iadd hx hb dX12_isState_59 ?_
            refine lv_topi (fun x14 ex14 => ?_)
            have tx14 := ti_add (a := (30 * s1.toInt)) (b := y1_2.toInt) ex14 tx13 rfl (by omega) (by omega)
            refine mld_53 hx hb hK hP (vp_in_iff.mpr (by have h9 : x14.toInt = ((30 * s1.toInt) + y1_2.toInt) := tx14; omega)) dX12_isState_60 (fun x15 ex15 => ?_)
            have rx15 : 0 ≤ x15.toInt ∧ x15.toInt ≤ 3 := by rw [ex15]; exact hI.2 53 _
            refine lv_aload_n hx hb dX12_isState_61 rfl (lv_at hl 1 rfl) ?_
            refine mget_25 hx hb hts (fun _ h => List.mem_cons_of_mem _ (List.mem_append_right _ h)) hown hK hP (hts (.fieldLink RX12 56 "TalePlayModel" "nOpen" "[Z") (List.mem_cons_of_mem _ (List.mem_append_left _ (List.mem_of_getElem? (i := 6) rfl)))) dX12_isState_62 ?_
            refine lv_iload_n hx hb dX12_isState_65 rfl (lv_at hl 0 rfl) ?_
            refine mld_25 hx hb hK hP (vp_in_iff.mpr (by have h9 : y1_2.toInt = y1_2.toInt := rfl; omega)) dX12_isState_66 (fun x16 ex16 => ?_)
            have rx16 : 0 ≤ x16.toInt ∧ x16.toInt ≤ 1 := by rw [ex16]; exact hI.2 25 _
            have jn17 : ∀ (z17_0 : Int32), (z17_0.toInt = 0 ∨ z17_0.toInt = 1) → ∀ (H : Heap) (locs : List Loc) (ls : Array Slot), va_P D vwCl (mW o a t i q c d) H → va_S (ro s.heap.size) s.heap H locs → lv_has ls 3 [(2, .int y1_2), (0, .ref o), (1, .int s1)] → W p l e (headSpec wm_X12_isState ({ frames := 0, cells := 0, slots := 0, locals := 0 })).room s m ([.ref o, .int s1] : List Value).toArray below meth cd H locs 0 0 (MQ below (va_Qi (fun (r : Int32) (_ : Unit) => (0 ≤ r.toInt ∧ r.toInt ≤ 1)) oA (ro s.heap.size)) ([.ref o, .int s1] : List Value).toArray s 0 0 (ro s.heap.size)) (F0 m 75 ls [.int z17_0, .int x15]) := by
              intro z17_0 hs17_0 H locs ls hP hS hl
              refine lv_aload_n hx hb dX12_isState_75 rfl (lv_at hl 1 rfl) ?_
              refine mget_26 hx hb hts (fun _ h => List.mem_cons_of_mem _ (List.mem_append_right _ h)) hown hK hP (hts (.fieldLink RX12 59 "TalePlayModel" "nLocked" "[Z") (List.mem_cons_of_mem _ (List.mem_append_left _ (List.mem_of_getElem? (i := 7) rfl)))) dX12_isState_76 ?_
              refine lv_iload_n hx hb dX12_isState_79 rfl (lv_at hl 0 rfl) ?_
              refine mld_26 hx hb hK hP (vp_in_iff.mpr (by have h9 : y1_2.toInt = y1_2.toInt := rfl; omega)) dX12_isState_80 (fun x18 ex18 => ?_)
              have rx18 : 0 ≤ x18.toInt ∧ x18.toInt ≤ 1 := by rw [ex18]; exact hI.2 26 _
              have jn19 : ∀ (z19_0 : Int32), (z19_0.toInt = 0 ∨ z19_0.toInt = 2) → ∀ (H : Heap) (locs : List Loc) (ls : Array Slot), va_P D vwCl (mW o a t i q c d) H → va_S (ro s.heap.size) s.heap H locs → lv_has ls 3 [(2, .int y1_2), (0, .ref o), (1, .int s1)] → W p l e (headSpec wm_X12_isState ({ frames := 0, cells := 0, slots := 0, locals := 0 })).room s m ([.ref o, .int s1] : List Value).toArray below meth cd H locs 0 0 (MQ below (va_Qi (fun (r : Int32) (_ : Unit) => (0 ≤ r.toInt ∧ r.toInt ≤ 1)) oA (ro s.heap.size)) ([.ref o, .int s1] : List Value).toArray s 0 0 (ro s.heap.size)) (F0 m 89 ls [.int z19_0, .int z17_0, .int x15]) := by
                intro z19_0 hs19_0 H locs ls hP hS hl
                refine lv_iadd hx hb dX12_isState_89 ?_
                refine lv_topi (fun x20 ex20 => ?_)
                have tx20 := ti_add (a := z17_0.toInt) (b := z19_0.toInt) ex20 rfl rfl (by omega) (by omega)
                refine lv_icmp_eq (tgt := 95) hx hb dX12_isState_90 (by decide +kernel) (fun c21 => ?_) (fun c21 => ?_)
                · have f21 := (ti_eq (a := x15.toInt) (b := (z17_0.toInt + z19_0.toInt)) rfl tx20).mp c21
                  obtain ⟨x22, ex22⟩ : ∃ y : Int32, y = y1_2 + 1 := ⟨_, rfl⟩
                  have tx22 := ti_add (a := y1_2.toInt) (b := 1) ex22 rfl (by decide +kernel) (by omega) (by omega)
                  refine lv_iinc (v := x22) (lv' := [(2, .int x22), (0, .ref o), (1, .int s1)]) hx hb dX12_isState_95 hl (k := 0) rfl (by rw [ex22]; rfl) (by decide +kernel) rfl (fun ls hl => ?_)
                  refine lv_goto (tgt := 2) hx hb dX12_isState_98 (by decide +kernel) ?_
                  exact ih1 x22 (show 0 ≤ x22.toInt ∧ x22.toInt ≤ 30 from by have h50 : x22.toInt = (y1_2.toInt + 1) := tx22; omega) (by have h50 : x22.toInt = (y1_2.toInt + 1) := tx22; omega) _ _ _ hP hS (lv_sub hl [0, 1, 2] rfl)
                · have f21 := mt (ti_eq (a := x15.toInt) (b := (z17_0.toInt + z19_0.toInt)) rfl tx20).mpr c21
                  refine lv_iconst (v := 0) hx hb dX12_isState_93 (by decide +kernel) ?_
                  exact ro_zret hx hb hr hlocks hS rfl dX12_isState_94 (show 0 ≤ (0 : Int32).toInt ∧ (0 : Int32).toInt ≤ 1 from by decide +kernel)
              refine lv_if_eq (tgt := 88) hx hb dX12_isState_81 (by decide +kernel) (fun c23 => ?_) (fun c23 => ?_)
              · have f23 := (ti_eq (a := x18.toInt) (b := 0) rfl (by decide +kernel)).mp c23
                refine lv_iconst (v := 0) hx hb dX12_isState_88 (by decide +kernel) ?_
                exact jn19  (0 : Int32) (show (0 : Int32).toInt = 0 ∨ (0 : Int32).toInt = 2 from by decide +kernel) _ _ _ hP hS (lv_sub hl [0, 1, 2] rfl)
              · have f23 := mt (ti_eq (a := x18.toInt) (b := 0) rfl (by decide +kernel)).mpr c23
                refine lv_iconst (v := 2) hx hb dX12_isState_84 (by decide +kernel) ?_
                refine lv_goto (tgt := 89) hx hb dX12_isState_85 (by decide +kernel) ?_
                exact jn19  (2 : Int32) (show (2 : Int32).toInt = 0 ∨ (2 : Int32).toInt = 2 from by decide +kernel) _ _ _ hP hS (lv_sub hl [0, 1, 2] rfl)
            refine lv_if_eq (tgt := 74) hx hb dX12_isState_67 (by decide +kernel) (fun c24 => ?_) (fun c24 => ?_)
            · have f24 := (ti_eq (a := x16.toInt) (b := 0) rfl (by decide +kernel)).mp c24
              refine lv_iconst (v := 0) hx hb dX12_isState_74 (by decide +kernel) ?_
              exact jn17  (0 : Int32) (show (0 : Int32).toInt = 0 ∨ (0 : Int32).toInt = 1 from by decide +kernel) _ _ _ hP hS (lv_sub hl [0, 1, 2] rfl)
            · have f24 := mt (ti_eq (a := x16.toInt) (b := 0) rfl (by decide +kernel)).mpr c24
              refine lv_iconst (v := 1) hx hb dX12_isState_70 (by decide +kernel) ?_
              refine lv_goto (tgt := 75) hx hb dX12_isState_71 (by decide +kernel) ?_
              exact jn17  (1 : Int32) (show (1 : Int32).toInt = 0 ∨ (1 : Int32).toInt = 1 from by decide +kernel) _ _ _ hP hS (lv_sub hl [0, 1, 2] rfl)
  exact lp1 _ (0 : Int32) (show 0 ≤ (0 : Int32).toInt ∧ (0 : Int32).toInt ≤ 30 from by decide +kernel) (Nat.lt_succ_self _) _ _ _ hP hS (lv_sub hl [0, 1, 2] rfl)

def wm_X12_body : List Cond := .code yX12_body cX12_body 2 none :: (([.fieldLink RX12 294 "TalePlayModel" "traces" "Z", .fieldLink RX12 297 "TalePlayModel" "traced" "I", .fieldLink RX12 77 "TalePlayModel" "trace" "[I"] : List Cond) ++ wsX120)
set_option maxHeartbeats 4000000 in
set_option maxRecDepth 100000 in
theorem s_X12_body (l : Launch) (D : va_G) (sz : Nat) (o : Nat) (a : Nat → Nat) (t : Nat → ClassId) (i : Nat → Int32) (q : Int64) (c : Nat → Nat → Int32) (d : Nat → Nat → Int64) (b1 : Int32) (hI : mInv i c) (hb1 : 0 ≤ b1.toInt ∧ b1.toInt ≤ 5) : Met l yX12_body wm_X12_body ({ frames := 0, cells := 0, slots := 0, locals := 0 }) (va_Pc [.ref o, .int b1] (pB D sz (mW o a t i q c d) (mT t))) (va_Qv (fun (u : MS) => True ∧ mInv u.1 u.2.2.1 ∧ (∀ k, k ∉ ([35] : List Nat) → u.1 k = i k) ∧ (∀ k, k ∉ ([34] : List Nat) → u.2.2.1 k = c k)) (oC D (va_A (mW o a t i q c d) sz) (fun u : MS => mW o a t u.1 u.2.1 u.2.2.1 u.2.2.2) (fun _ => [])) (va_A (mW o a t i q c d) sz)) 0 0 (va_A (mW o a t i q c d) sz) := by
  refine Met.ofW (cc := cX12_body) (maxL := 2) (ret := none) (by decide +kernel) rfl ?_
  intro p e s m args below meth cd s₁ B hml hv
  obtain ⟨rfl, hsz, hP, hK, hD0⟩ := hv
  have hx := B.exec
  have hb := B.bytes
  have hr := B.returns
  have hts := atoms_spec (ws := wm_X12_body) B.pre
  have hown : s.vm.findClass RX12 = some m.cls := findClass_of_methodNamed B.named
  have hlocks := B.notSynchronized
  subst hsz
  have hD := hD0.self (sz := s.heap.size)
  generalize hAe : va_A (mW o a t i q c d) s.heap.size = A at hD ⊢
  have hA : ∀ q : Nat, s.heap.size ≤ q → A q := fun q h => by rw [← hAe]; exact Or.inr h
  have hS : va_S A s.heap s.heap [] := va_S.rf
  have hfi : ∀ k, k ∉ ([] : List Nat) → i k = i k := fun _ _ => rfl
  have hfc : ∀ k, k ∉ ([] : List Nat) → c k = c k := fun _ _ => rfl
  have hl := lv_entry ([.ref o, .int b1]) (n := 2) (Nat.le_of_ble_eq_true rfl)
  rw [lg_entry_eq]
  generalize (lg_sl ([.ref o, .int b1]) ++ List.replicate (2 - (lg_sl ([.ref o, .int b1])).length) Slot.unset).toArray = ls at hl ⊢
  have hl : lv_has ls 2 [(0, .ref o), (1, .int b1)] := hl
  refine lv_aload_n hx hb dX12_body_0 rfl (lv_at hl 0 rfl) ?_
  refine mget_33 (v := (i 33)) rfl hx hb hts (fun _ h => List.mem_cons_of_mem _ (List.mem_append_right _ h)) hown hK hP (hts (.fieldLink RX12 294 "TalePlayModel" "traces" "Z") (List.mem_cons_of_mem _ (List.mem_append_left _ (List.mem_of_getElem? (i := 0) rfl)))) dX12_body_1 ?_
  have rb33_i : 0 ≤ (i 33).toInt ∧ (i 33).toInt ≤ 1 := hI.1 33
  refine lv_if_eq (tgt := 36) hx hb dX12_body_4 (by decide +kernel) (fun c1 => ?_) (fun c1 => ?_)
  · have f1 := (ti_eq (a := (i 33).toInt) (b := 0) rfl (by decide +kernel)).mp c1
    exact rw_vret (i, q, c, d) hx hb hr hlocks hS (hK.sub (tys' := []) [] rfl) hP hD dX12_body_36 ⟨trivial, hI, fr_w hfi (by decide +kernel), fr_w hfc (by decide +kernel)⟩
  · have f1 := mt (ti_eq (a := (i 33).toInt) (b := 0) rfl (by decide +kernel)).mpr c1
    refine lv_aload_n hx hb dX12_body_7 rfl (lv_at hl 0 rfl) ?_
    refine mget_35 (v := (i 35)) rfl hx hb hts (fun _ h => List.mem_cons_of_mem _ (List.mem_append_right _ h)) hown hK hP (hts (.fieldLink RX12 297 "TalePlayModel" "traced" "I") (List.mem_cons_of_mem _ (List.mem_append_left _ (List.mem_of_getElem? (i := 1) rfl)))) dX12_body_8 ?_
    have rb35_i : 0 ≤ (i 35).toInt ∧ (i 35).toInt ≤ 100 := hI.1 35
    refine lv_bipush (v := 100) hx hb dX12_body_11 (by decide +kernel) ?_
    refine lv_icmp_ge (tgt := 36) hx hb dX12_body_13 (by decide +kernel) (fun c2 => ?_) (fun c2 => ?_)
    · have f2 := (ti_le (a := 100) (b := (i 35).toInt) (by decide +kernel) rfl).mp c2
      exact rw_vret (i, q, c, d) hx hb hr hlocks hS (hK.sub (tys' := []) [] rfl) hP hD dX12_body_36 ⟨trivial, hI, fr_w hfi (by decide +kernel), fr_w hfc (by decide +kernel)⟩
    · have f2 := mt (ti_le (a := 100) (b := (i 35).toInt) (by decide +kernel) rfl).mpr c2
      refine lv_aload_n hx hb dX12_body_16 rfl (lv_at hl 0 rfl) ?_
      refine mget_34 hx hb hts (fun _ h => List.mem_cons_of_mem _ (List.mem_append_right _ h)) hown hK hP (hts (.fieldLink RX12 77 "TalePlayModel" "trace" "[I") (List.mem_cons_of_mem _ (List.mem_append_left _ (List.mem_of_getElem? (i := 2) rfl)))) dX12_body_17 ?_
      refine lv_aload_n hx hb dX12_body_20 rfl (lv_at hl 0 rfl) ?_
      refine mget_35 (v := (i 35)) rfl hx hb hts (fun _ h => List.mem_cons_of_mem _ (List.mem_append_right _ h)) hown hK hP (hts (.fieldLink RX12 297 "TalePlayModel" "traced" "I") (List.mem_cons_of_mem _ (List.mem_append_left _ (List.mem_of_getElem? (i := 1) rfl)))) dX12_body_21 ?_
      refine lv_iload_n hx hb dX12_body_24 rfl (lv_at hl 1 rfl) ?_
      refine mst_34 hx hb hK hP hD hS (vp_in_iff.mpr (by have h9 : (i 35).toInt = (i 35).toInt := rfl; omega)) dX12_body_25 (fun H locs hP hD hS => ?_)
      have hI := mInv_c hI (k := 34) (j := ((i 35) : Int32).toNatClampNeg) (x := b1) (show 0 ≤ (b1 : Int32).toInt ∧ (b1 : Int32).toInt ≤ 5 from by omega)
      have hfc : ∀ k, k ∉ ([34] : List Nat) → (updA c 34 ((i 35) : Int32).toNatClampNeg b1) k = c k := fr_cz hfc (by decide +kernel) (by decide +kernel)
      refine lv_aload_n hx hb dX12_body_26 rfl (lv_at hl 0 rfl) ?_
      refine lv_dup hx hb dX12_body_27 rfl ?_
      refine mget_35 (v := (i 35)) rfl hx hb hts (fun _ h => List.mem_cons_of_mem _ (List.mem_append_right _ h)) hown hK hP (hts (.fieldLink RX12 297 "TalePlayModel" "traced" "I") (List.mem_cons_of_mem _ (List.mem_append_left _ (List.mem_of_getElem? (i := 1) rfl)))) dX12_body_28 ?_
      refine lv_iconst (v := 1) hx hb dX12_body_31 (by decide +kernel) ?_
      refine lv_iadd hx hb dX12_body_32 ?_
      refine lv_topi (fun x3 ex3 => ?_)
      have tx3 := ti_add (a := (i 35).toInt) (b := 1) ex3 rfl (by decide +kernel) (by omega) (by omega)
      refine mput_35 hx hb hts (fun _ h => List.mem_cons_of_mem _ (List.mem_append_right _ h)) hown hK hP hD hS (hts (.fieldLink RX12 297 "TalePlayModel" "traced" "I") (List.mem_cons_of_mem _ (List.mem_append_left _ (List.mem_of_getElem? (i := 1) rfl)))) rfl rfl dX12_body_33 (fun H locs hP hD hS => ?_)
      have hI := mInv_i hI (k := 35) (v := x3) (show 0 ≤ (x3 : Int32).toInt ∧ (x3 : Int32).toInt ≤ 100 from by have h9 : x3.toInt = ((i 35).toInt + 1) := tx3; omega)
      have hfi : ∀ k, k ∉ ([35] : List Nat) → (upd i 35 x3) k = i k := fr_iz hfi (by decide +kernel) (by decide +kernel)
      exact rw_vret ((upd i 35 x3), q, (updA c 34 ((i 35) : Int32).toNatClampNeg b1), d) hx hb hr hlocks hS (hK.sub (tys' := []) [] rfl) hP hD dX12_body_36 ⟨trivial, hI, fr_w hfi (by decide +kernel), fr_w hfc (by decide +kernel)⟩

def wm_X12_finding : List Cond := .code yX12_finding cX12_finding 1 (some .int) :: (([.fieldLink RX12 161 "TalePlayModel" "latest" "I"] : List Cond) ++ wsX120)
set_option maxHeartbeats 4000000 in
set_option maxRecDepth 100000 in
theorem s_X12_finding (l : Launch) (D : va_G) (sz : Nat) (o : Nat) (a : Nat → Nat) (t : Nat → ClassId) (i : Nat → Int32) (q : Int64) (c : Nat → Nat → Int32) (d : Nat → Nat → Int64) (hI : mInv i c) : Met l yX12_finding wm_X12_finding ({ frames := 0, cells := 0, slots := 0, locals := 0 }) (va_Pc [.ref o] (pA D sz (mW o a t i q c d) (mT t))) (va_Qi (fun (r : Int32) (_ : Unit) => True) oA (ro sz)) 0 0 (ro sz) := by
  refine Met.ofW (cc := cX12_finding) (maxL := 1) (ret := (some .int)) (by decide +kernel) rfl ?_
  intro p e s m args below meth cd s₁ B hml hv
  obtain ⟨rfl, hsz, hP, hK⟩ := hv
  have hx := B.exec
  have hb := B.bytes
  have hr := B.returns
  have hts := atoms_spec (ws := wm_X12_finding) B.pre
  have hown : s.vm.findClass RX12 = some m.cls := findClass_of_methodNamed B.named
  have hlocks := B.notSynchronized
  subst hsz
  have hA : ∀ q : Nat, s.heap.size ≤ q → ro s.heap.size q := fun _ h => h
  have hS : va_S (ro s.heap.size) s.heap s.heap [] := va_S.rf
  have hl := lv_entry ([.ref o]) (n := 1) (Nat.le_of_ble_eq_true rfl)
  rw [lg_entry_eq]
  generalize (lg_sl ([.ref o]) ++ List.replicate (1 - (lg_sl ([.ref o])).length) Slot.unset).toArray = ls at hl ⊢
  have hl : lv_has ls 1 [(0, .ref o)] := hl
  refine lv_aload_n hx hb dX12_finding_0 rfl (lv_at hl 0 rfl) ?_
  refine mget_0 (v := (i 0)) rfl hx hb hts (fun _ h => List.mem_cons_of_mem _ (List.mem_append_right _ h)) hown hK hP (hts (.fieldLink RX12 161 "TalePlayModel" "latest" "I") (List.mem_cons_of_mem _ (List.mem_append_left _ (List.mem_of_getElem? (i := 0) rfl)))) dX12_finding_1 ?_
  have rb0_i : 0 ≤ (i 0).toInt ∧ (i 0).toInt ≤ 6 := hI.1 0
  exact ro_iret hx hb hr hlocks hS dX12_finding_4 trivial

def wm_X12_findings : List Cond := .code yX12_findings cX12_findings 2 (some .int) :: (([.constantLong RX12 164 (6), .methodLink RX12 166 yX12_in, .static yX12_in, .initialized RX12, .code yX12_in cX12_in 6 (some .boolean), .fieldLink RX12 7 "TalePlayModel" "came" "[I"] : List Cond) ++ wsX120)
set_option maxRecDepth 20000 in
theorem gm_X12_findings_X12_in : GoodIn wm_X12_findings (va_wsS RX12 166 yX12_in wm_X12_in) := goodIn_w (List.forall_mem_append.mpr ⟨List.forall_mem_cons.mpr ⟨List.mem_cons_of_mem _ (List.mem_append_left _ (List.mem_of_getElem? (i := 1) rfl)), List.forall_mem_cons.mpr ⟨List.mem_cons_of_mem _ (List.mem_append_left _ (List.mem_of_getElem? (i := 2) rfl)), List.forall_mem_cons.mpr ⟨List.mem_cons_of_mem _ (List.mem_append_left _ (List.mem_of_getElem? (i := 3) rfl)), (fun _ h => absurd h List.not_mem_nil)⟩⟩⟩, List.forall_mem_cons.mpr ⟨List.mem_cons_of_mem _ (List.mem_append_left _ (List.mem_of_getElem? (i := 4) rfl)), (fun _ h => absurd h List.not_mem_nil)⟩⟩) (by decide +kernel)
set_option maxHeartbeats 4000000 in
set_option maxRecDepth 100000 in
theorem s_X12_findings (l : Launch) (D : va_G) (sz : Nat) (o : Nat) (a : Nat → Nat) (t : Nat → ClassId) (i : Nat → Int32) (q : Int64) (c : Nat → Nat → Int32) (d : Nat → Nat → Int64) (f : Int32) (hI : mInv i c) : Met l yX12_findings wm_X12_findings ({ frames := 1, cells := 0, slots := 0, locals := 25 }) (va_Pc [.ref o, .int f] (pA D sz (mW o a t i q c d) (mT t))) (va_Qi (fun (r : Int32) (_ : Unit) => True) oA (ro sz)) 0 0 (ro sz) := by
  refine Met.ofW (cc := cX12_findings) (maxL := 2) (ret := (some .int)) (by decide +kernel) rfl ?_
  intro p e s m args below meth cd s₁ B hml hv
  obtain ⟨rfl, hsz, hP, hK⟩ := hv
  have hx := B.exec
  have hb := B.bytes
  have hr := B.returns
  have hts := atoms_spec (ws := wm_X12_findings) B.pre
  have hown : s.vm.findClass RX12 = some m.cls := findClass_of_methodNamed B.named
  have hlocks := B.notSynchronized
  subst hsz
  have hA : ∀ q : Nat, s.heap.size ≤ q → ro s.heap.size q := fun _ h => h
  have hS : va_S (ro s.heap.size) s.heap s.heap [] := va_S.rf
  have hl := lv_entry ([.ref o, .int f]) (n := 2) (Nat.le_of_ble_eq_true rfl)
  rw [lg_entry_eq]
  generalize (lg_sl ([.ref o, .int f]) ++ List.replicate (2 - (lg_sl ([.ref o, .int f])).length) Slot.unset).toArray = ls at hl ⊢
  have hl : lv_has ls 2 [(0, .ref o), (1, .int f)] := hl
  refine lv_iload_n hx hb dX12_findings_0 rfl (lv_at hl 1 rfl) ?_
  refine lv_i2l (v := f.toInt64) hx hb dX12_findings_1 rfl ?_
  refine lv_lconst (v := 1) hx hb dX12_findings_2 (by decide +kernel) ?_
  refine lv_ldc2 (v := 6) hx hb hown (hts (.constantLong RX12 164 (6)) (List.mem_cons_of_mem _ (List.mem_append_left _ (List.mem_of_getElem? (i := 0) rfl)))) dX12_findings_3 ?_
  have hPc := hP.sub (ws' := []) [] rfl
  have hKc := hK.sub (tys' := []) [] rfl
  refine ro_calli (va_runS (As := [.long f.toInt64, .long 1, .long 6]) (rest := []) ⟨hx, hb, hml, hown, hts⟩ (c_X12_in l D s.heap.size f.toInt64 1 6 f.toInt 1 6 ((Int32.toInt_toInt64 f).trans rfl) (by decide +kernel) (by decide +kernel)) (va_cwS 3 hts gm_X12_findings_X12_in rfl rfl rfl (by decide +kernel) ⟨Nat.le_of_ble_eq_true rfl, Nat.le_of_ble_eq_true rfl⟩) (pA_S hKc hPc) rfl rfl hl.1 rfl (lv_room (Nat.le_of_ble_eq_true rfl)) dX12_findings_6 ⟨Nat.le_of_ble_eq_true rfl, Nat.le_of_ble_eq_true rfl⟩) hS hA hP (fun r1 u1 H locs hw1 hP hS => ?_)
  have hw1 : r1 = if (1 ≤ f.toInt ∧ f.toInt ≤ 6) then 1 else 0 := hw1
  refine lv_if_eq (tgt := 21) hx hb dX12_findings_9 (by decide +kernel) (fun c2 => ?_) (fun c2 => ?_)
  · have f2 := fl_f hw1 c2
    refine lv_iconst (v := (-1)) hx hb dX12_findings_21 (by decide +kernel) ?_
    exact ro_iret hx hb hr hlocks hS dX12_findings_22 trivial
  · have f2 := fl_t hw1 c2
    refine lv_aload_n hx hb dX12_findings_12 rfl (lv_at hl 0 rfl) ?_
    refine mget_1 hx hb hts (fun _ h => List.mem_cons_of_mem _ (List.mem_append_right _ h)) hown hK hP (hts (.fieldLink RX12 7 "TalePlayModel" "came" "[I") (List.mem_cons_of_mem _ (List.mem_append_left _ (List.mem_of_getElem? (i := 5) rfl)))) dX12_findings_13 ?_
    refine lv_iload_n hx hb dX12_findings_16 rfl (lv_at hl 1 rfl) ?_
    refine mld_1 hx hb hK hP (vp_in_iff.mpr (by have h9 : f.toInt = f.toInt := rfl; omega)) dX12_findings_17 (fun x3 ex3 => ?_)
    refine lv_goto (tgt := 22) hx hb dX12_findings_18 (by decide +kernel) ?_
    exact ro_iret hx hb hr hlocks hS dX12_findings_22 trivial

def wm_X12_is : List Cond := .code yX12_is cX12_is 3 (some .int) :: (([.methodLink RX12 180 yX12_isObject, .instanceMethod yX12_isObject, .selects RX12 yX12_isObject yX12_isObject, .initialized RX12, .code yX12_isObject cX12_isObject 2 (some .boolean), .fieldLink RX12 177 "TalePlayModel" "objects" "I", .methodLink RX12 166 yX12_in, .static yX12_in, .code yX12_in cX12_in 6 (some .boolean), .fieldLink RX12 151 "TalePlayModel" "kinds" "I", .methodLink RX12 184 yX12_isOf, .instanceMethod yX12_isOf, .selects RX12 yX12_isOf yX12_isOf, .code yX12_isOf cX12_isOf 4 (some .boolean), .fieldLink RX12 19 "TalePlayModel" "kindOf" "[I", .fieldLink RX12 13 "TalePlayModel" "parentOf" "[I"] : List Cond) ++ wsX120)
set_option maxRecDepth 20000 in
theorem gm_X12_is_X12_isObject : GoodIn wm_X12_is (wsV RX12 180 RX12 yX12_isObject wm_X12_isObject) := goodIn_w (List.forall_mem_append.mpr ⟨List.forall_mem_cons.mpr ⟨List.mem_cons_of_mem _ (List.mem_append_left _ (List.mem_of_getElem? (i := 0) rfl)), List.forall_mem_cons.mpr ⟨List.mem_cons_of_mem _ (List.mem_append_left _ (List.mem_of_getElem? (i := 1) rfl)), List.forall_mem_cons.mpr ⟨List.mem_cons_of_mem _ (List.mem_append_left _ (List.mem_of_getElem? (i := 2) rfl)), List.forall_mem_cons.mpr ⟨List.mem_cons_of_mem _ (List.mem_append_left _ (List.mem_of_getElem? (i := 3) rfl)), (fun _ h => absurd h List.not_mem_nil)⟩⟩⟩⟩, List.forall_mem_cons.mpr ⟨List.mem_cons_of_mem _ (List.mem_append_left _ (List.mem_of_getElem? (i := 4) rfl)), List.forall_mem_append.mpr ⟨List.forall_mem_cons.mpr ⟨List.mem_cons_of_mem _ (List.mem_append_left _ (List.mem_of_getElem? (i := 5) rfl)), List.forall_mem_cons.mpr ⟨List.mem_cons_of_mem _ (List.mem_append_left _ (List.mem_of_getElem? (i := 6) rfl)), List.forall_mem_cons.mpr ⟨List.mem_cons_of_mem _ (List.mem_append_left _ (List.mem_of_getElem? (i := 7) rfl)), List.forall_mem_cons.mpr ⟨List.mem_cons_of_mem _ (List.mem_append_left _ (List.mem_of_getElem? (i := 3) rfl)), List.forall_mem_cons.mpr ⟨List.mem_cons_of_mem _ (List.mem_append_left _ (List.mem_of_getElem? (i := 8) rfl)), (fun _ h => absurd h List.not_mem_nil)⟩⟩⟩⟩⟩, (fun _ h => List.mem_cons_of_mem _ (List.mem_append_right _ h))⟩⟩⟩) (by decide +kernel)
set_option maxRecDepth 20000 in
theorem gm_X12_is_X12_in : GoodIn wm_X12_is (va_wsS RX12 166 yX12_in wm_X12_in) := goodIn_w (List.forall_mem_append.mpr ⟨List.forall_mem_cons.mpr ⟨List.mem_cons_of_mem _ (List.mem_append_left _ (List.mem_of_getElem? (i := 6) rfl)), List.forall_mem_cons.mpr ⟨List.mem_cons_of_mem _ (List.mem_append_left _ (List.mem_of_getElem? (i := 7) rfl)), List.forall_mem_cons.mpr ⟨List.mem_cons_of_mem _ (List.mem_append_left _ (List.mem_of_getElem? (i := 3) rfl)), (fun _ h => absurd h List.not_mem_nil)⟩⟩⟩, List.forall_mem_cons.mpr ⟨List.mem_cons_of_mem _ (List.mem_append_left _ (List.mem_of_getElem? (i := 8) rfl)), (fun _ h => absurd h List.not_mem_nil)⟩⟩) (by decide +kernel)
set_option maxRecDepth 20000 in
theorem gm_X12_is_X12_isOf : GoodIn wm_X12_is (wsV RX12 184 RX12 yX12_isOf wm_X12_isOf) := goodIn_w (List.forall_mem_append.mpr ⟨List.forall_mem_cons.mpr ⟨List.mem_cons_of_mem _ (List.mem_append_left _ (List.mem_of_getElem? (i := 10) rfl)), List.forall_mem_cons.mpr ⟨List.mem_cons_of_mem _ (List.mem_append_left _ (List.mem_of_getElem? (i := 11) rfl)), List.forall_mem_cons.mpr ⟨List.mem_cons_of_mem _ (List.mem_append_left _ (List.mem_of_getElem? (i := 12) rfl)), List.forall_mem_cons.mpr ⟨List.mem_cons_of_mem _ (List.mem_append_left _ (List.mem_of_getElem? (i := 3) rfl)), (fun _ h => absurd h List.not_mem_nil)⟩⟩⟩⟩, List.forall_mem_cons.mpr ⟨List.mem_cons_of_mem _ (List.mem_append_left _ (List.mem_of_getElem? (i := 13) rfl)), List.forall_mem_append.mpr ⟨List.forall_mem_cons.mpr ⟨List.mem_cons_of_mem _ (List.mem_append_left _ (List.mem_of_getElem? (i := 14) rfl)), List.forall_mem_cons.mpr ⟨List.mem_cons_of_mem _ (List.mem_append_left _ (List.mem_of_getElem? (i := 15) rfl)), (fun _ h => absurd h List.not_mem_nil)⟩⟩, (fun _ h => List.mem_cons_of_mem _ (List.mem_append_right _ h))⟩⟩⟩) (by decide +kernel)
def wm_X12_clash : List Cond := .code yX12_clash cX12_clash 2 (some .int) :: (([.fieldLink RX12 205 "TalePlayModel" "rowMany" "I", .methodLink RX12 166 yX12_in, .static yX12_in, .initialized RX12, .code yX12_in cX12_in 6 (some .boolean), .fieldLink RX12 41 "TalePlayModel" "row" "[I"] : List Cond) ++ wsX120)
set_option maxRecDepth 20000 in
theorem gm_X12_clash_X12_in : GoodIn wm_X12_clash (va_wsS RX12 166 yX12_in wm_X12_in) := goodIn_w (List.forall_mem_append.mpr ⟨List.forall_mem_cons.mpr ⟨List.mem_cons_of_mem _ (List.mem_append_left _ (List.mem_of_getElem? (i := 1) rfl)), List.forall_mem_cons.mpr ⟨List.mem_cons_of_mem _ (List.mem_append_left _ (List.mem_of_getElem? (i := 2) rfl)), List.forall_mem_cons.mpr ⟨List.mem_cons_of_mem _ (List.mem_append_left _ (List.mem_of_getElem? (i := 3) rfl)), (fun _ h => absurd h List.not_mem_nil)⟩⟩⟩, List.forall_mem_cons.mpr ⟨List.mem_cons_of_mem _ (List.mem_append_left _ (List.mem_of_getElem? (i := 4) rfl)), (fun _ h => absurd h List.not_mem_nil)⟩⟩) (by decide +kernel)
set_option maxHeartbeats 4000000 in
set_option maxRecDepth 100000 in
theorem s_X12_clash (l : Launch) (D : va_G) (sz : Nat) (o : Nat) (a : Nat → Nat) (t : Nat → ClassId) (i : Nat → Int32) (q : Int64) (c : Nat → Nat → Int32) (d : Nat → Nat → Int64) (w : Int32) (hI : mInv i c) : Met l yX12_clash wm_X12_clash ({ frames := 1, cells := 0, slots := 0, locals := 25 }) (va_Pc [.ref o, .int w] (pA D sz (mW o a t i q c d) (mT t))) (va_Qi (fun (r : Int32) (_ : Unit) => True) oA (ro sz)) 0 0 (ro sz) := by
  refine Met.ofW (cc := cX12_clash) (maxL := 2) (ret := (some .int)) (by decide +kernel) rfl ?_
  intro p e s m args below meth cd s₁ B hml hv
  obtain ⟨rfl, hsz, hP, hK⟩ := hv
  have hx := B.exec
  have hb := B.bytes
  have hr := B.returns
  have hts := atoms_spec (ws := wm_X12_clash) B.pre
  have hown : s.vm.findClass RX12 = some m.cls := findClass_of_methodNamed B.named
  have hlocks := B.notSynchronized
  subst hsz
  have hA : ∀ q : Nat, s.heap.size ≤ q → ro s.heap.size q := fun _ h => h
  have hS : va_S (ro s.heap.size) s.heap s.heap [] := va_S.rf
  have hl := lv_entry ([.ref o, .int w]) (n := 2) (Nat.le_of_ble_eq_true rfl)
  rw [lg_entry_eq]
  generalize (lg_sl ([.ref o, .int w]) ++ List.replicate (2 - (lg_sl ([.ref o, .int w])).length) Slot.unset).toArray = ls at hl ⊢
  have hl : lv_has ls 2 [(0, .ref o), (1, .int w)] := hl
  refine lv_iload_n hx hb dX12_clash_0 rfl (lv_at hl 1 rfl) ?_
  refine lv_i2l (v := w.toInt64) hx hb dX12_clash_1 rfl ?_
  refine lv_lconst (v := 0) hx hb dX12_clash_2 (by decide +kernel) ?_
  refine lv_aload_n hx hb dX12_clash_3 rfl (lv_at hl 0 rfl) ?_
  refine mget_15 (v := (i 15)) rfl hx hb hts (fun _ h => List.mem_cons_of_mem _ (List.mem_append_right _ h)) hown hK hP (hts (.fieldLink RX12 205 "TalePlayModel" "rowMany" "I") (List.mem_cons_of_mem _ (List.mem_append_left _ (List.mem_of_getElem? (i := 0) rfl)))) dX12_clash_4 ?_
  have rb15_i : 0 ≤ (i 15).toInt ∧ (i 15).toInt ≤ 200 := hI.1 15
  refine lv_iconst (v := 1) hx hb dX12_clash_7 (by decide +kernel) ?_
  refine lv_isub hx hb dX12_clash_8 ?_
  refine lv_topi (fun x1 ex1 => ?_)
  have tx1 := ti_sub (a := (i 15).toInt) (b := 1) ex1 rfl (by decide +kernel) (by omega) (by omega)
  refine lv_i2l (v := x1.toInt64) hx hb dX12_clash_9 rfl ?_
  have hPc := hP.sub (ws' := []) [] rfl
  have hKc := hK.sub (tys' := []) [] rfl
  refine ro_calli (va_runS (As := [.long w.toInt64, .long 0, .long x1.toInt64]) (rest := []) ⟨hx, hb, hml, hown, hts⟩ (c_X12_in l D s.heap.size w.toInt64 0 x1.toInt64 w.toInt 0 ((i 15).toInt - 1) ((Int32.toInt_toInt64 w).trans rfl) (by decide +kernel) ((Int32.toInt_toInt64 x1).trans tx1)) (va_cwS 3 hts gm_X12_clash_X12_in rfl rfl rfl (by decide +kernel) ⟨Nat.le_of_ble_eq_true rfl, Nat.le_of_ble_eq_true rfl⟩) (pA_S hKc hPc) rfl rfl hl.1 rfl (lv_room (Nat.le_of_ble_eq_true rfl)) dX12_clash_10 ⟨Nat.le_of_ble_eq_true rfl, Nat.le_of_ble_eq_true rfl⟩) hS hA hP (fun r2 u2 H locs hw2 hP hS => ?_)
  have hw2 : r2 = if (0 ≤ w.toInt ∧ w.toInt ≤ ((i 15).toInt - 1)) then 1 else 0 := hw2
  refine lv_if_eq (tgt := 25) hx hb dX12_clash_13 (by decide +kernel) (fun c3 => ?_) (fun c3 => ?_)
  · have f3 := fl_f hw2 c3
    refine lv_bipush (v := (-9)) hx hb dX12_clash_25 (by decide +kernel) ?_
    exact ro_iret hx hb hr hlocks hS dX12_clash_27 trivial
  · have f3 := fl_t hw2 c3
    refine lv_aload_n hx hb dX12_clash_16 rfl (lv_at hl 0 rfl) ?_
    refine mget_14 hx hb hts (fun _ h => List.mem_cons_of_mem _ (List.mem_append_right _ h)) hown hK hP (hts (.fieldLink RX12 41 "TalePlayModel" "row" "[I") (List.mem_cons_of_mem _ (List.mem_append_left _ (List.mem_of_getElem? (i := 5) rfl)))) dX12_clash_17 ?_
    refine lv_iload_n hx hb dX12_clash_20 rfl (lv_at hl 1 rfl) ?_
    refine mld_14 hx hb hK hP (vp_in_iff.mpr (by have h9 : w.toInt = w.toInt := rfl; omega)) dX12_clash_21 (fun x4 ex4 => ?_)
    have rx4 : 0 ≤ x4.toInt ∧ x4.toInt ≤ 199 := by rw [ex4]; exact hI.2 14 _
    refine lv_goto (tgt := 27) hx hb dX12_clash_22 (by decide +kernel) ?_
    exact ro_iret hx hb hr hlocks hS dX12_clash_27 trivial

def wm_X12_sentence : List Cond := .code yX12_sentence cX12_sentence 3 (some .int) :: (([.fieldLink RX12 202 "TalePlayModel" "sentences" "I", .methodLink RX12 166 yX12_in, .static yX12_in, .initialized RX12, .code yX12_in cX12_in 6 (some .boolean), .constantLong RX12 252 (4), .fieldLink RX12 37 "TalePlayModel" "isSaid" "[Z", .fieldLink RX12 34 "TalePlayModel" "right" "[I", .fieldLink RX12 31 "TalePlayModel" "middle" "[I", .fieldLink RX12 28 "TalePlayModel" "left" "[I", .fieldLink RX12 25 "TalePlayModel" "form" "[I"] : List Cond) ++ wsX120)
set_option maxRecDepth 20000 in
theorem gm_X12_sentence_X12_in : GoodIn wm_X12_sentence (va_wsS RX12 166 yX12_in wm_X12_in) := goodIn_w (List.forall_mem_append.mpr ⟨List.forall_mem_cons.mpr ⟨List.mem_cons_of_mem _ (List.mem_append_left _ (List.mem_of_getElem? (i := 1) rfl)), List.forall_mem_cons.mpr ⟨List.mem_cons_of_mem _ (List.mem_append_left _ (List.mem_of_getElem? (i := 2) rfl)), List.forall_mem_cons.mpr ⟨List.mem_cons_of_mem _ (List.mem_append_left _ (List.mem_of_getElem? (i := 3) rfl)), (fun _ h => absurd h List.not_mem_nil)⟩⟩⟩, List.forall_mem_cons.mpr ⟨List.mem_cons_of_mem _ (List.mem_append_left _ (List.mem_of_getElem? (i := 4) rfl)), (fun _ h => absurd h List.not_mem_nil)⟩⟩) (by decide +kernel)
set_option maxHeartbeats 4000000 in
set_option maxRecDepth 100000 in
theorem s_X12_sentence (l : Launch) (D : va_G) (sz : Nat) (o : Nat) (a : Nat → Nat) (t : Nat → ClassId) (i : Nat → Int32) (q : Int64) (c : Nat → Nat → Int32) (d : Nat → Nat → Int64) (s1 : Int32) (w : Int32) (hI : mInv i c) : Met l yX12_sentence wm_X12_sentence ({ frames := 1, cells := 0, slots := 0, locals := 25 }) (va_Pc [.ref o, .int s1, .int w] (pA D sz (mW o a t i q c d) (mT t))) (va_Qi (fun (r : Int32) (_ : Unit) => True) oA (ro sz)) 0 0 (ro sz) := by
  refine Met.ofW (cc := cX12_sentence) (maxL := 3) (ret := (some .int)) (by decide +kernel) rfl ?_
  intro p e s m args below meth cd s₁ B hml hv
  obtain ⟨rfl, hsz, hP, hK⟩ := hv
  have hx := B.exec
  have hb := B.bytes
  have hr := B.returns
  have hts := atoms_spec (ws := wm_X12_sentence) B.pre
  have hown : s.vm.findClass RX12 = some m.cls := findClass_of_methodNamed B.named
  have hlocks := B.notSynchronized
  subst hsz
  have hA : ∀ q : Nat, s.heap.size ≤ q → ro s.heap.size q := fun _ h => h
  have hS : va_S (ro s.heap.size) s.heap s.heap [] := va_S.rf
  have hl := lv_entry ([.ref o, .int s1, .int w]) (n := 3) (Nat.le_of_ble_eq_true rfl)
  rw [lg_entry_eq]
  generalize (lg_sl ([.ref o, .int s1, .int w]) ++ List.replicate (3 - (lg_sl ([.ref o, .int s1, .int w])).length) Slot.unset).toArray = ls at hl ⊢
  have hl : lv_has ls 3 [(0, .ref o), (1, .int s1), (2, .int w)] := hl
  refine lv_iload_n hx hb dX12_sentence_0 rfl (lv_at hl 1 rfl) ?_
  refine lv_i2l (v := s1.toInt64) hx hb dX12_sentence_1 rfl ?_
  refine lv_lconst (v := 0) hx hb dX12_sentence_2 (by decide +kernel) ?_
  refine lv_aload_n hx hb dX12_sentence_3 rfl (lv_at hl 0 rfl) ?_
  refine mget_8 (v := (i 8)) rfl hx hb hts (fun _ h => List.mem_cons_of_mem _ (List.mem_append_right _ h)) hown hK hP (hts (.fieldLink RX12 202 "TalePlayModel" "sentences" "I") (List.mem_cons_of_mem _ (List.mem_append_left _ (List.mem_of_getElem? (i := 0) rfl)))) dX12_sentence_4 ?_
  have rb8_i : 0 ≤ (i 8).toInt ∧ (i 8).toInt ≤ 200 := hI.1 8
  refine lv_iconst (v := 1) hx hb dX12_sentence_7 (by decide +kernel) ?_
  refine lv_isub hx hb dX12_sentence_8 ?_
  refine lv_topi (fun x1 ex1 => ?_)
  have tx1 := ti_sub (a := (i 8).toInt) (b := 1) ex1 rfl (by decide +kernel) (by omega) (by omega)
  refine lv_i2l (v := x1.toInt64) hx hb dX12_sentence_9 rfl ?_
  have hPc := hP.sub (ws' := []) [] rfl
  have hKc := hK.sub (tys' := []) [] rfl
  refine ro_calli (va_runS (As := [.long s1.toInt64, .long 0, .long x1.toInt64]) (rest := []) ⟨hx, hb, hml, hown, hts⟩ (c_X12_in l D s.heap.size s1.toInt64 0 x1.toInt64 s1.toInt 0 ((i 8).toInt - 1) ((Int32.toInt_toInt64 s1).trans rfl) (by decide +kernel) ((Int32.toInt_toInt64 x1).trans tx1)) (va_cwS 3 hts gm_X12_sentence_X12_in rfl rfl rfl (by decide +kernel) ⟨Nat.le_of_ble_eq_true rfl, Nat.le_of_ble_eq_true rfl⟩) (pA_S hKc hPc) rfl rfl hl.1 rfl (lv_room (Nat.le_of_ble_eq_true rfl)) dX12_sentence_10 ⟨Nat.le_of_ble_eq_true rfl, Nat.le_of_ble_eq_true rfl⟩) hS hA hP (fun r2 u2 H locs hw2 hP hS => ?_)
  have hw2 : r2 = if (0 ≤ s1.toInt ∧ s1.toInt ≤ ((i 8).toInt - 1)) then 1 else 0 := hw2
  refine lv_if_eq (tgt := 28) hx hb dX12_sentence_13 (by decide +kernel) (fun c3 => ?_) (fun c3 => ?_)
  · have f3 := fl_f hw2 c3
    refine lv_iconst (v := (-1)) hx hb dX12_sentence_28 (by decide +kernel) ?_
    exact ro_iret hx hb hr hlocks hS dX12_sentence_29 trivial
  · have f3 := fl_t hw2 c3
    refine lv_iload_n hx hb dX12_sentence_16 rfl (lv_at hl 2 rfl) ?_
    refine lv_i2l (v := w.toInt64) hx hb dX12_sentence_17 rfl ?_
    refine lv_lconst (v := 0) hx hb dX12_sentence_18 (by decide +kernel) ?_
    refine lv_ldc2 (v := 4) hx hb hown (hts (.constantLong RX12 252 (4)) (List.mem_cons_of_mem _ (List.mem_append_left _ (List.mem_of_getElem? (i := 5) rfl)))) dX12_sentence_19 ?_
    have hPc := hP.sub (ws' := []) [] rfl
    have hKc := hK.sub (tys' := []) [] rfl
    refine ro_calli (va_runS (As := [.long w.toInt64, .long 0, .long 4]) (rest := []) ⟨hx, hb, hml, hown, hts⟩ (c_X12_in l D H.size w.toInt64 0 4 w.toInt 0 4 ((Int32.toInt_toInt64 w).trans rfl) (by decide +kernel) (by decide +kernel)) (va_cwS 3 hts gm_X12_sentence_X12_in rfl rfl rfl (by decide +kernel) ⟨Nat.le_of_ble_eq_true rfl, Nat.le_of_ble_eq_true rfl⟩) (pA_S hKc hPc) rfl rfl hl.1 rfl (lv_room (Nat.le_of_ble_eq_true rfl)) dX12_sentence_22 ⟨Nat.le_of_ble_eq_true rfl, Nat.le_of_ble_eq_true rfl⟩) hS hA hP (fun r4 u4 H locs hw4 hP hS => ?_)
    have hw4 : r4 = if (0 ≤ w.toInt ∧ w.toInt ≤ 4) then 1 else 0 := hw4
    refine lv_if_ne (tgt := 30) hx hb dX12_sentence_25 (by decide +kernel) (fun c5 => ?_) (fun c5 => ?_)
    · have f5 := fl_t hw4 c5
      refine lv_iload_n hx hb dX12_sentence_30 rfl (lv_at hl 2 rfl) ?_
      refine lv_if_ne (tgt := 43) hx hb dX12_sentence_31 (by decide +kernel) (fun c6 => ?_) (fun c6 => ?_)
      · have f6 := mt (ti_eq (a := w.toInt) (b := 0) rfl (by decide +kernel)).mpr c6
        refine lv_iload_n hx hb dX12_sentence_43 rfl (lv_at hl 2 rfl) ?_
        refine lv_iconst (v := 1) hx hb dX12_sentence_44 (by decide +kernel) ?_
        refine lv_icmp_ne (tgt := 57) hx hb dX12_sentence_45 (by decide +kernel) (fun c7 => ?_) (fun c7 => ?_)
        · have f7 := mt (ti_eq (a := w.toInt) (b := 1) rfl (by decide +kernel)).mpr c7
          refine lv_iload_n hx hb dX12_sentence_57 rfl (lv_at hl 2 rfl) ?_
          refine lv_iconst (v := 2) hx hb dX12_sentence_58 (by decide +kernel) ?_
          refine lv_icmp_ne (tgt := 71) hx hb dX12_sentence_59 (by decide +kernel) (fun c8 => ?_) (fun c8 => ?_)
          · have f8 := mt (ti_eq (a := w.toInt) (b := 2) rfl (by decide +kernel)).mpr c8
            refine lv_iload_n hx hb dX12_sentence_71 rfl (lv_at hl 2 rfl) ?_
            refine lv_iconst (v := 3) hx hb dX12_sentence_72 (by decide +kernel) ?_
            refine lv_icmp_ne (tgt := 85) hx hb dX12_sentence_73 (by decide +kernel) (fun c9 => ?_) (fun c9 => ?_)
            · have f9 := mt (ti_eq (a := w.toInt) (b := 3) rfl (by decide +kernel)).mpr c9
              refine lv_aload_n hx hb dX12_sentence_85 rfl (lv_at hl 0 rfl) ?_
              refine mget_13 hx hb hts (fun _ h => List.mem_cons_of_mem _ (List.mem_append_right _ h)) hown hK hP (hts (.fieldLink RX12 37 "TalePlayModel" "isSaid" "[Z") (List.mem_cons_of_mem _ (List.mem_append_left _ (List.mem_of_getElem? (i := 6) rfl)))) dX12_sentence_86 ?_
              refine lv_iload_n hx hb dX12_sentence_89 rfl (lv_at hl 1 rfl) ?_
              refine mld_13 hx hb hK hP (vp_in_iff.mpr (by have h9 : s1.toInt = s1.toInt := rfl; omega)) dX12_sentence_90 (fun x10 ex10 => ?_)
              have rx10 : 0 ≤ x10.toInt ∧ x10.toInt ≤ 1 := by rw [ex10]; exact hI.2 13 _
              refine lv_if_eq (tgt := 98) hx hb dX12_sentence_91 (by decide +kernel) (fun c11 => ?_) (fun c11 => ?_)
              · have f11 := (ti_eq (a := x10.toInt) (b := 0) rfl (by decide +kernel)).mp c11
                refine lv_iconst (v := 0) hx hb dX12_sentence_98 (by decide +kernel) ?_
                exact ro_iret hx hb hr hlocks hS dX12_sentence_99 trivial
              · have f11 := mt (ti_eq (a := x10.toInt) (b := 0) rfl (by decide +kernel)).mpr c11
                refine lv_iconst (v := 1) hx hb dX12_sentence_94 (by decide +kernel) ?_
                refine lv_goto (tgt := 99) hx hb dX12_sentence_95 (by decide +kernel) ?_
                exact ro_iret hx hb hr hlocks hS dX12_sentence_99 trivial
            · have f9 := (ti_eq (a := w.toInt) (b := 3) rfl (by decide +kernel)).mp c9
              refine lv_aload_n hx hb dX12_sentence_76 rfl (lv_at hl 0 rfl) ?_
              refine mget_12 hx hb hts (fun _ h => List.mem_cons_of_mem _ (List.mem_append_right _ h)) hown hK hP (hts (.fieldLink RX12 34 "TalePlayModel" "right" "[I") (List.mem_cons_of_mem _ (List.mem_append_left _ (List.mem_of_getElem? (i := 7) rfl)))) dX12_sentence_77 ?_
              refine lv_iload_n hx hb dX12_sentence_80 rfl (lv_at hl 1 rfl) ?_
              refine mld_12 hx hb hK hP (vp_in_iff.mpr (by have h9 : s1.toInt = s1.toInt := rfl; omega)) dX12_sentence_81 (fun x12 ex12 => ?_)
              have rx12 : 0 ≤ x12.toInt ∧ x12.toInt ≤ 9 := by rw [ex12]; exact hI.2 12 _
              refine lv_goto (tgt := 99) hx hb dX12_sentence_82 (by decide +kernel) ?_
              exact ro_iret hx hb hr hlocks hS dX12_sentence_99 trivial
          · have f8 := (ti_eq (a := w.toInt) (b := 2) rfl (by decide +kernel)).mp c8
            refine lv_aload_n hx hb dX12_sentence_62 rfl (lv_at hl 0 rfl) ?_
            refine mget_11 hx hb hts (fun _ h => List.mem_cons_of_mem _ (List.mem_append_right _ h)) hown hK hP (hts (.fieldLink RX12 31 "TalePlayModel" "middle" "[I") (List.mem_cons_of_mem _ (List.mem_append_left _ (List.mem_of_getElem? (i := 8) rfl)))) dX12_sentence_63 ?_
            refine lv_iload_n hx hb dX12_sentence_66 rfl (lv_at hl 1 rfl) ?_
            refine mld_11 hx hb hK hP (vp_in_iff.mpr (by have h9 : s1.toInt = s1.toInt := rfl; omega)) dX12_sentence_67 (fun x13 ex13 => ?_)
            have rx13 : 0 ≤ x13.toInt ∧ x13.toInt ≤ 29 := by rw [ex13]; exact hI.2 11 _
            refine lv_goto (tgt := 99) hx hb dX12_sentence_68 (by decide +kernel) ?_
            exact ro_iret hx hb hr hlocks hS dX12_sentence_99 trivial
        · have f7 := (ti_eq (a := w.toInt) (b := 1) rfl (by decide +kernel)).mp c7
          refine lv_aload_n hx hb dX12_sentence_48 rfl (lv_at hl 0 rfl) ?_
          refine mget_10 hx hb hts (fun _ h => List.mem_cons_of_mem _ (List.mem_append_right _ h)) hown hK hP (hts (.fieldLink RX12 28 "TalePlayModel" "left" "[I") (List.mem_cons_of_mem _ (List.mem_append_left _ (List.mem_of_getElem? (i := 9) rfl)))) dX12_sentence_49 ?_
          refine lv_iload_n hx hb dX12_sentence_52 rfl (lv_at hl 1 rfl) ?_
          refine mld_10 hx hb hK hP (vp_in_iff.mpr (by have h9 : s1.toInt = s1.toInt := rfl; omega)) dX12_sentence_53 (fun x14 ex14 => ?_)
          have rx14 : 0 ≤ x14.toInt ∧ x14.toInt ≤ 29 := by rw [ex14]; exact hI.2 10 _
          refine lv_goto (tgt := 99) hx hb dX12_sentence_54 (by decide +kernel) ?_
          exact ro_iret hx hb hr hlocks hS dX12_sentence_99 trivial
      · have f6 := (ti_eq (a := w.toInt) (b := 0) rfl (by decide +kernel)).mp c6
        refine lv_aload_n hx hb dX12_sentence_34 rfl (lv_at hl 0 rfl) ?_
        refine mget_9 hx hb hts (fun _ h => List.mem_cons_of_mem _ (List.mem_append_right _ h)) hown hK hP (hts (.fieldLink RX12 25 "TalePlayModel" "form" "[I") (List.mem_cons_of_mem _ (List.mem_append_left _ (List.mem_of_getElem? (i := 10) rfl)))) dX12_sentence_35 ?_
        refine lv_iload_n hx hb dX12_sentence_38 rfl (lv_at hl 1 rfl) ?_
        refine mld_9 hx hb hK hP (vp_in_iff.mpr (by have h9 : s1.toInt = s1.toInt := rfl; omega)) dX12_sentence_39 (fun x15 ex15 => ?_)
        have rx15 : 0 ≤ x15.toInt ∧ x15.toInt ≤ 7 := by rw [ex15]; exact hI.2 9 _
        refine lv_goto (tgt := 99) hx hb dX12_sentence_40 (by decide +kernel) ?_
        exact ro_iret hx hb hr hlocks hS dX12_sentence_99 trivial
    · have f5 := fl_f hw4 c5
      refine lv_iconst (v := (-1)) hx hb dX12_sentence_28 (by decide +kernel) ?_
      exact ro_iret hx hb hr hlocks hS dX12_sentence_29 trivial

def wm_X12_place : List Cond := .code yX12_place cX12_place 4 (some .int) :: ((([.methodLink RX12 180 yX12_isObject, .instanceMethod yX12_isObject, .selects RX12 yX12_isObject yX12_isObject, .initialized RX12, .code yX12_isObject cX12_isObject 2 (some .boolean), .fieldLink RX12 177 "TalePlayModel" "objects" "I", .methodLink RX12 166 yX12_in, .static yX12_in, .code yX12_in cX12_in 6 (some .boolean), .constantLong RX12 254 (2), .methodLink RX12 208 yX12_placing, .instanceMethod yX12_placing, .selects RX12 yX12_placing yX12_placing, .code yX12_placing cX12_placing 3 (some .int), .fieldLink RX12 202 "TalePlayModel" "sentences" "I", .fieldLink RX12 37 "TalePlayModel" "isSaid" "[Z"] : List Cond) ++ ([.fieldLink RX12 25 "TalePlayModel" "form" "[I", .fieldLink RX12 28 "TalePlayModel" "left" "[I", .fieldLink RX12 31 "TalePlayModel" "middle" "[I"] : List Cond)) ++ wsX120)
set_option maxRecDepth 20000 in
theorem gm_X12_place_X12_isObject : GoodIn wm_X12_place (wsV RX12 180 RX12 yX12_isObject wm_X12_isObject) := goodIn_w (List.forall_mem_append.mpr ⟨List.forall_mem_cons.mpr ⟨List.mem_cons_of_mem _ (List.mem_append_left _ (List.mem_append_left _ (List.mem_of_getElem? (i := 0) rfl))), List.forall_mem_cons.mpr ⟨List.mem_cons_of_mem _ (List.mem_append_left _ (List.mem_append_left _ (List.mem_of_getElem? (i := 1) rfl))), List.forall_mem_cons.mpr ⟨List.mem_cons_of_mem _ (List.mem_append_left _ (List.mem_append_left _ (List.mem_of_getElem? (i := 2) rfl))), List.forall_mem_cons.mpr ⟨List.mem_cons_of_mem _ (List.mem_append_left _ (List.mem_append_left _ (List.mem_of_getElem? (i := 3) rfl))), (fun _ h => absurd h List.not_mem_nil)⟩⟩⟩⟩, List.forall_mem_cons.mpr ⟨List.mem_cons_of_mem _ (List.mem_append_left _ (List.mem_append_left _ (List.mem_of_getElem? (i := 4) rfl))), List.forall_mem_append.mpr ⟨List.forall_mem_cons.mpr ⟨List.mem_cons_of_mem _ (List.mem_append_left _ (List.mem_append_left _ (List.mem_of_getElem? (i := 5) rfl))), List.forall_mem_cons.mpr ⟨List.mem_cons_of_mem _ (List.mem_append_left _ (List.mem_append_left _ (List.mem_of_getElem? (i := 6) rfl))), List.forall_mem_cons.mpr ⟨List.mem_cons_of_mem _ (List.mem_append_left _ (List.mem_append_left _ (List.mem_of_getElem? (i := 7) rfl))), List.forall_mem_cons.mpr ⟨List.mem_cons_of_mem _ (List.mem_append_left _ (List.mem_append_left _ (List.mem_of_getElem? (i := 3) rfl))), List.forall_mem_cons.mpr ⟨List.mem_cons_of_mem _ (List.mem_append_left _ (List.mem_append_left _ (List.mem_of_getElem? (i := 8) rfl))), (fun _ h => absurd h List.not_mem_nil)⟩⟩⟩⟩⟩, (fun _ h => List.mem_cons_of_mem _ (List.mem_append_right _ h))⟩⟩⟩) (by decide +kernel)
set_option maxRecDepth 20000 in
theorem gm_X12_place_X12_in : GoodIn wm_X12_place (va_wsS RX12 166 yX12_in wm_X12_in) := goodIn_w (List.forall_mem_append.mpr ⟨List.forall_mem_cons.mpr ⟨List.mem_cons_of_mem _ (List.mem_append_left _ (List.mem_append_left _ (List.mem_of_getElem? (i := 6) rfl))), List.forall_mem_cons.mpr ⟨List.mem_cons_of_mem _ (List.mem_append_left _ (List.mem_append_left _ (List.mem_of_getElem? (i := 7) rfl))), List.forall_mem_cons.mpr ⟨List.mem_cons_of_mem _ (List.mem_append_left _ (List.mem_append_left _ (List.mem_of_getElem? (i := 3) rfl))), (fun _ h => absurd h List.not_mem_nil)⟩⟩⟩, List.forall_mem_cons.mpr ⟨List.mem_cons_of_mem _ (List.mem_append_left _ (List.mem_append_left _ (List.mem_of_getElem? (i := 8) rfl))), (fun _ h => absurd h List.not_mem_nil)⟩⟩) (by decide +kernel)
set_option maxRecDepth 20000 in
theorem gm_X12_place_X12_placing : GoodIn wm_X12_place (wsV RX12 208 RX12 yX12_placing wm_X12_placing) := goodIn_w (List.forall_mem_append.mpr ⟨List.forall_mem_cons.mpr ⟨List.mem_cons_of_mem _ (List.mem_append_left _ (List.mem_append_left _ (List.mem_of_getElem? (i := 10) rfl))), List.forall_mem_cons.mpr ⟨List.mem_cons_of_mem _ (List.mem_append_left _ (List.mem_append_left _ (List.mem_of_getElem? (i := 11) rfl))), List.forall_mem_cons.mpr ⟨List.mem_cons_of_mem _ (List.mem_append_left _ (List.mem_append_left _ (List.mem_of_getElem? (i := 12) rfl))), List.forall_mem_cons.mpr ⟨List.mem_cons_of_mem _ (List.mem_append_left _ (List.mem_append_left _ (List.mem_of_getElem? (i := 3) rfl))), (fun _ h => absurd h List.not_mem_nil)⟩⟩⟩⟩, List.forall_mem_cons.mpr ⟨List.mem_cons_of_mem _ (List.mem_append_left _ (List.mem_append_left _ (List.mem_of_getElem? (i := 13) rfl))), List.forall_mem_append.mpr ⟨List.forall_mem_cons.mpr ⟨List.mem_cons_of_mem _ (List.mem_append_left _ (List.mem_append_left _ (List.mem_of_getElem? (i := 14) rfl))), List.forall_mem_cons.mpr ⟨List.mem_cons_of_mem _ (List.mem_append_left _ (List.mem_append_left _ (List.mem_of_getElem? (i := 15) rfl))), List.forall_mem_cons.mpr ⟨List.mem_cons_of_mem _ (List.mem_append_left _ (List.mem_append_right _ (List.mem_of_getElem? (i := 0) rfl))), List.forall_mem_cons.mpr ⟨List.mem_cons_of_mem _ (List.mem_append_left _ (List.mem_append_right _ (List.mem_of_getElem? (i := 1) rfl))), (fun _ h => absurd h List.not_mem_nil)⟩⟩⟩⟩, (fun _ h => List.mem_cons_of_mem _ (List.mem_append_right _ h))⟩⟩⟩) (by decide +kernel)
set_option maxHeartbeats 4000000 in
set_option maxRecDepth 100000 in
theorem s_X12_place (l : Launch) (D : va_G) (sz : Nat) (o : Nat) (a : Nat → Nat) (t : Nat → ClassId) (i : Nat → Int32) (q : Int64) (c : Nat → Nat → Int32) (d : Nat → Nat → Int64) (w : Int32) (w1 : Int32) (hI : mInv i c) : Met l yX12_place wm_X12_place ({ frames := 2, cells := 0, slots := 0, locals := 46 }) (va_Pc [.ref o, .int w, .int w1] (pA D sz (mW o a t i q c d) (mT t))) (va_Qi (fun (r : Int32) (_ : Unit) => True) oA (ro sz)) 0 0 (ro sz) := by
  refine Met.ofW (cc := cX12_place) (maxL := 4) (ret := (some .int)) (by decide +kernel) rfl ?_
  intro p e s m args below meth cd s₁ B hml hv
  obtain ⟨rfl, hsz, hP, hK⟩ := hv
  have hx := B.exec
  have hb := B.bytes
  have hr := B.returns
  have hts := atoms_spec (ws := wm_X12_place) B.pre
  have hown : s.vm.findClass RX12 = some m.cls := findClass_of_methodNamed B.named
  have hlocks := B.notSynchronized
  subst hsz
  have hA : ∀ q : Nat, s.heap.size ≤ q → ro s.heap.size q := fun _ h => h
  have hS : va_S (ro s.heap.size) s.heap s.heap [] := va_S.rf
  have hl := lv_entry ([.ref o, .int w, .int w1]) (n := 4) (Nat.le_of_ble_eq_true rfl)
  rw [lg_entry_eq]
  generalize (lg_sl ([.ref o, .int w, .int w1]) ++ List.replicate (4 - (lg_sl ([.ref o, .int w, .int w1])).length) Slot.unset).toArray = ls at hl ⊢
  have hl : lv_has ls 4 [(0, .ref o), (1, .int w), (2, .int w1)] := hl
  refine lv_aload_n hx hb dX12_place_0 rfl (lv_at hl 0 rfl) ?_
  refine lv_iload_n hx hb dX12_place_1 rfl (lv_at hl 1 rfl) ?_
  have rb5_i : 0 ≤ (i 5).toInt ∧ (i 5).toInt ≤ 30 := hI.1 5
  refine ro_calli (va_runV (As := [.int w]) (rest := []) ⟨hx, hb, hml, hown, hts⟩ (s_X12_isObject l D s.heap.size o a t i q c d w hI ) (cwV 1 hts gm_X12_place_X12_isObject rfl rfl rfl (by decide +kernel) ⟨Nat.le_of_ble_eq_true rfl, Nat.le_of_ble_eq_true rfl⟩) (pA_V hK hP (ci := 12) (q0 := 0) rfl rfl) rfl rfl hl.1 rfl (lv_room (Nat.le_of_ble_eq_true rfl)) dX12_place_2 ⟨Nat.le_of_ble_eq_true rfl, Nat.le_of_ble_eq_true rfl⟩) hS hA hP (fun r1 u1 H locs hw1 hP hS => ?_)
  have hw1 : r1 = if (0 ≤ w.toInt ∧ w.toInt ≤ (i 5).toInt - 1) then 1 else 0 := hw1
  refine lv_if_eq (tgt := 20) hx hb dX12_place_5 (by decide +kernel) (fun c2 => ?_) (fun c2 => ?_)
  · have f2 := fl_f hw1 c2
    refine lv_iconst (v := (-1)) hx hb dX12_place_20 (by decide +kernel) ?_
    exact ro_iret hx hb hr hlocks hS dX12_place_21 trivial
  · have f2 := fl_t hw1 c2
    refine lv_iload_n hx hb dX12_place_8 rfl (lv_at hl 2 rfl) ?_
    refine lv_i2l (v := w1.toInt64) hx hb dX12_place_9 rfl ?_
    refine lv_lconst (v := 0) hx hb dX12_place_10 (by decide +kernel) ?_
    refine lv_ldc2 (v := 2) hx hb hown (hts (.constantLong RX12 254 (2)) (List.mem_cons_of_mem _ (List.mem_append_left _ (List.mem_append_left _ (List.mem_of_getElem? (i := 9) rfl))))) dX12_place_11 ?_
    have hPc := hP.sub (ws' := []) [] rfl
    have hKc := hK.sub (tys' := []) [] rfl
    refine ro_calli (va_runS (As := [.long w1.toInt64, .long 0, .long 2]) (rest := []) ⟨hx, hb, hml, hown, hts⟩ (c_X12_in l D H.size w1.toInt64 0 2 w1.toInt 0 2 ((Int32.toInt_toInt64 w1).trans rfl) (by decide +kernel) (by decide +kernel)) (va_cwS 3 hts gm_X12_place_X12_in rfl rfl rfl (by decide +kernel) ⟨Nat.le_of_ble_eq_true rfl, Nat.le_of_ble_eq_true rfl⟩) (pA_S hKc hPc) rfl rfl hl.1 rfl (lv_room (Nat.le_of_ble_eq_true rfl)) dX12_place_14 ⟨Nat.le_of_ble_eq_true rfl, Nat.le_of_ble_eq_true rfl⟩) hS hA hP (fun r3 u3 H locs hw3 hP hS => ?_)
    have hw3 : r3 = if (0 ≤ w1.toInt ∧ w1.toInt ≤ 2) then 1 else 0 := hw3
    refine lv_if_ne (tgt := 22) hx hb dX12_place_17 (by decide +kernel) (fun c4 => ?_) (fun c4 => ?_)
    · have f4 := fl_t hw3 c4
      refine lv_aload_n hx hb dX12_place_22 rfl (lv_at hl 0 rfl) ?_
      refine lv_iload_n hx hb dX12_place_23 rfl (lv_at hl 1 rfl) ?_
      have rb8_i : 0 ≤ (i 8).toInt ∧ (i 8).toInt ≤ 200 := hI.1 8
      refine ro_calli (va_runV (As := [.int w]) (rest := []) ⟨hx, hb, hml, hown, hts⟩ (s_X12_placing l D H.size o a t i q c d w hI ) (cwV 1 hts gm_X12_place_X12_placing rfl rfl rfl (by decide +kernel) ⟨Nat.le_of_ble_eq_true rfl, Nat.le_of_ble_eq_true rfl⟩) (pA_V hK hP (ci := 12) (q0 := 0) rfl rfl) rfl rfl hl.1 rfl (lv_room (Nat.le_of_ble_eq_true rfl)) dX12_place_24 ⟨Nat.le_of_ble_eq_true rfl, Nat.le_of_ble_eq_true rfl⟩) hS hA hP (fun r5 u5 H locs hw5 hP hS => ?_)
      have hw5 : ((r5.toInt = -9 ∨ (0 ≤ r5.toInt ∧ r5.toInt ≤ 199)) ∧ (r5.toInt = pL (c 9) (c 10) (c 13) (i 8).toInt w.toInt)) := hw5
      obtain ⟨hw5, hr5_0⟩ := hw5
      have hr5_0 : r5.toInt = pL (c 9) (c 10) (c 13) (i 8).toInt w.toInt := hr5_0
      refine lv_istore_n (lv' := [(3, .int r5), (0, .ref o), (1, .int w), (2, .int w1)]) hx hb dX12_place_27 rfl hl (by decide +kernel) rfl (fun ls hl => ?_)
      refine lv_iload_n hx hb dX12_place_28 rfl (lv_at hl 0 rfl) ?_
      refine lv_bipush (v := (-9)) hx hb dX12_place_29 (by decide +kernel) ?_
      refine lv_icmp_ne (tgt := 39) hx hb dX12_place_31 (by decide +kernel) (fun c6 => ?_) (fun c6 => ?_)
      · have f6 := mt (ti_eq (a := r5.toInt) (b := (-9)) rfl (by decide +kernel)).mpr c6
        refine lv_iload_n hx hb dX12_place_39 rfl (lv_at hl 3 rfl) ?_
        refine lv_if_ne (tgt := 52) hx hb dX12_place_40 (by decide +kernel) (fun c7 => ?_) (fun c7 => ?_)
        · have f7 := mt (ti_eq (a := w1.toInt) (b := 0) rfl (by decide +kernel)).mpr c7
          refine lv_iload_n hx hb dX12_place_52 rfl (lv_at hl 3 rfl) ?_
          refine lv_iconst (v := 1) hx hb dX12_place_53 (by decide +kernel) ?_
          refine lv_icmp_ne (tgt := 66) hx hb dX12_place_54 (by decide +kernel) (fun c8 => ?_) (fun c8 => ?_)
          · have f8 := mt (ti_eq (a := w1.toInt) (b := 1) rfl (by decide +kernel)).mpr c8
            refine lv_iload_n hx hb dX12_place_66 rfl (lv_at hl 0 rfl) ?_
            exact ro_iret hx hb hr hlocks hS dX12_place_67 trivial
          · have f8 := (ti_eq (a := w1.toInt) (b := 1) rfl (by decide +kernel)).mp c8
            refine lv_aload_n hx hb dX12_place_57 rfl (lv_at hl 1 rfl) ?_
            refine mget_11 hx hb hts (fun _ h => List.mem_cons_of_mem _ (List.mem_append_right _ h)) hown hK hP (hts (.fieldLink RX12 31 "TalePlayModel" "middle" "[I") (List.mem_cons_of_mem _ (List.mem_append_left _ (List.mem_append_right _ (List.mem_of_getElem? (i := 2) rfl))))) dX12_place_58 ?_
            refine lv_iload_n hx hb dX12_place_61 rfl (lv_at hl 0 rfl) ?_
            refine mld_11 hx hb hK hP (vp_in_iff.mpr (by have h9 : r5.toInt = r5.toInt := rfl; omega)) dX12_place_62 (fun x9 ex9 => ?_)
            have rx9 : 0 ≤ x9.toInt ∧ x9.toInt ≤ 29 := by rw [ex9]; exact hI.2 11 _
            refine lv_goto (tgt := 67) hx hb dX12_place_63 (by decide +kernel) ?_
            exact ro_iret hx hb hr hlocks hS dX12_place_67 trivial
        · have f7 := (ti_eq (a := w1.toInt) (b := 0) rfl (by decide +kernel)).mp c7
          refine lv_aload_n hx hb dX12_place_43 rfl (lv_at hl 1 rfl) ?_
          refine mget_9 hx hb hts (fun _ h => List.mem_cons_of_mem _ (List.mem_append_right _ h)) hown hK hP (hts (.fieldLink RX12 25 "TalePlayModel" "form" "[I") (List.mem_cons_of_mem _ (List.mem_append_left _ (List.mem_append_right _ (List.mem_of_getElem? (i := 0) rfl))))) dX12_place_44 ?_
          refine lv_iload_n hx hb dX12_place_47 rfl (lv_at hl 0 rfl) ?_
          refine mld_9 hx hb hK hP (vp_in_iff.mpr (by have h9 : r5.toInt = r5.toInt := rfl; omega)) dX12_place_48 (fun x10 ex10 => ?_)
          have rx10 : 0 ≤ x10.toInt ∧ x10.toInt ≤ 7 := by rw [ex10]; exact hI.2 9 _
          refine lv_goto (tgt := 67) hx hb dX12_place_49 (by decide +kernel) ?_
          exact ro_iret hx hb hr hlocks hS dX12_place_67 trivial
      · have f6 := (ti_eq (a := r5.toInt) (b := (-9)) rfl (by decide +kernel)).mp c6
        refine lv_bipush (v := (-9)) hx hb dX12_place_34 (by decide +kernel) ?_
        refine lv_goto (tgt := 67) hx hb dX12_place_36 (by decide +kernel) ?_
        exact ro_iret hx hb hr hlocks hS dX12_place_67 trivial
    · have f4 := fl_f hw3 c4
      refine lv_iconst (v := (-1)) hx hb dX12_place_20 (by decide +kernel) ?_
      exact ro_iret hx hb hr hlocks hS dX12_place_21 trivial

def wm_X12_flag : List Cond := .code yX12_flag cX12_flag 3 (some .int) :: ((([.methodLink RX12 180 yX12_isObject, .instanceMethod yX12_isObject, .selects RX12 yX12_isObject yX12_isObject, .initialized RX12, .code yX12_isObject cX12_isObject 2 (some .boolean), .fieldLink RX12 177 "TalePlayModel" "objects" "I", .methodLink RX12 166 yX12_in, .static yX12_in, .code yX12_in cX12_in 6 (some .boolean), .constantLong RX12 170 (5), .methodLink RX12 199 yX12_mayHave, .instanceMethod yX12_mayHave, .selects RX12 yX12_mayHave yX12_mayHave, .code yX12_mayHave cX12_mayHave 3 (some .boolean), .methodLink RX12 184 yX12_isOf, .instanceMethod yX12_isOf] : List Cond) ++ (([.selects RX12 yX12_isOf yX12_isOf, .code yX12_isOf cX12_isOf 4 (some .boolean), .fieldLink RX12 19 "TalePlayModel" "kindOf" "[I", .fieldLink RX12 13 "TalePlayModel" "parentOf" "[I", .methodLink RX12 191 yX12_isShutter, .instanceMethod yX12_isShutter, .selects RX12 yX12_isShutter yX12_isShutter, .code yX12_isShutter cX12_isShutter 2 (some .boolean), .methodLink RX12 188 yX12_isMovable, .instanceMethod yX12_isMovable, .selects RX12 yX12_isMovable yX12_isMovable, .code yX12_isMovable cX12_isMovable 2 (some .boolean), .methodLink RX12 194 yX12_isGoods, .instanceMethod yX12_isGoods, .selects RX12 yX12_isGoods yX12_isGoods, .code yX12_isGoods cX12_isGoods 2 (some .boolean)] : List Cond) ++ (([.methodLink RX12 233 yX12_meets, .instanceMethod yX12_meets, .selects RX12 yX12_meets yX12_meets, .code yX12_meets cX12_meets 2 (some .int), .fieldLink RX12 161 "TalePlayModel" "latest" "I", .fieldLink RX12 7 "TalePlayModel" "came" "[I", .methodLink RX12 256 yX12_saidFlag, .instanceMethod yX12_saidFlag, .selects RX12 yX12_saidFlag yX12_saidFlag, .code yX12_saidFlag cX12_saidFlag 4 (some .int), .methodLink RX12 216 yX12_saidSo, .instanceMethod yX12_saidSo, .selects RX12 yX12_saidSo yX12_saidSo, .code yX12_saidSo cX12_saidSo 6 (some .int), .fieldLink RX12 202 "TalePlayModel" "sentences" "I", .fieldLink RX12 37 "TalePlayModel" "isSaid" "[Z"] : List Cond) ++ ([.fieldLink RX12 25 "TalePlayModel" "form" "[I", .fieldLink RX12 28 "TalePlayModel" "left" "[I", .fieldLink RX12 31 "TalePlayModel" "middle" "[I", .fieldLink RX12 34 "TalePlayModel" "right" "[I", .fieldLink RX12 16 "TalePlayModel" "defaults" "[I"] : List Cond)))) ++ wsX120)
set_option maxRecDepth 20000 in
theorem gm_X12_flag_X12_isObject : GoodIn wm_X12_flag (wsV RX12 180 RX12 yX12_isObject wm_X12_isObject) := goodIn_w (List.forall_mem_append.mpr ⟨List.forall_mem_cons.mpr ⟨List.mem_cons_of_mem _ (List.mem_append_left _ (List.mem_append_left _ (List.mem_of_getElem? (i := 0) rfl))), List.forall_mem_cons.mpr ⟨List.mem_cons_of_mem _ (List.mem_append_left _ (List.mem_append_left _ (List.mem_of_getElem? (i := 1) rfl))), List.forall_mem_cons.mpr ⟨List.mem_cons_of_mem _ (List.mem_append_left _ (List.mem_append_left _ (List.mem_of_getElem? (i := 2) rfl))), List.forall_mem_cons.mpr ⟨List.mem_cons_of_mem _ (List.mem_append_left _ (List.mem_append_left _ (List.mem_of_getElem? (i := 3) rfl))), (fun _ h => absurd h List.not_mem_nil)⟩⟩⟩⟩, List.forall_mem_cons.mpr ⟨List.mem_cons_of_mem _ (List.mem_append_left _ (List.mem_append_left _ (List.mem_of_getElem? (i := 4) rfl))), List.forall_mem_append.mpr ⟨List.forall_mem_cons.mpr ⟨List.mem_cons_of_mem _ (List.mem_append_left _ (List.mem_append_left _ (List.mem_of_getElem? (i := 5) rfl))), List.forall_mem_cons.mpr ⟨List.mem_cons_of_mem _ (List.mem_append_left _ (List.mem_append_left _ (List.mem_of_getElem? (i := 6) rfl))), List.forall_mem_cons.mpr ⟨List.mem_cons_of_mem _ (List.mem_append_left _ (List.mem_append_left _ (List.mem_of_getElem? (i := 7) rfl))), List.forall_mem_cons.mpr ⟨List.mem_cons_of_mem _ (List.mem_append_left _ (List.mem_append_left _ (List.mem_of_getElem? (i := 3) rfl))), List.forall_mem_cons.mpr ⟨List.mem_cons_of_mem _ (List.mem_append_left _ (List.mem_append_left _ (List.mem_of_getElem? (i := 8) rfl))), (fun _ h => absurd h List.not_mem_nil)⟩⟩⟩⟩⟩, (fun _ h => List.mem_cons_of_mem _ (List.mem_append_right _ h))⟩⟩⟩) (by decide +kernel)
set_option maxRecDepth 20000 in
theorem gm_X12_flag_X12_in : GoodIn wm_X12_flag (va_wsS RX12 166 yX12_in wm_X12_in) := goodIn_w (List.forall_mem_append.mpr ⟨List.forall_mem_cons.mpr ⟨List.mem_cons_of_mem _ (List.mem_append_left _ (List.mem_append_left _ (List.mem_of_getElem? (i := 6) rfl))), List.forall_mem_cons.mpr ⟨List.mem_cons_of_mem _ (List.mem_append_left _ (List.mem_append_left _ (List.mem_of_getElem? (i := 7) rfl))), List.forall_mem_cons.mpr ⟨List.mem_cons_of_mem _ (List.mem_append_left _ (List.mem_append_left _ (List.mem_of_getElem? (i := 3) rfl))), (fun _ h => absurd h List.not_mem_nil)⟩⟩⟩, List.forall_mem_cons.mpr ⟨List.mem_cons_of_mem _ (List.mem_append_left _ (List.mem_append_left _ (List.mem_of_getElem? (i := 8) rfl))), (fun _ h => absurd h List.not_mem_nil)⟩⟩) (by decide +kernel)
set_option maxRecDepth 20000 in
theorem gm_X12_flag_X12_mayHave : GoodIn wm_X12_flag (wsV RX12 199 RX12 yX12_mayHave wm_X12_mayHave) := goodIn_w (List.forall_mem_append.mpr ⟨List.forall_mem_cons.mpr ⟨List.mem_cons_of_mem _ (List.mem_append_left _ (List.mem_append_left _ (List.mem_of_getElem? (i := 10) rfl))), List.forall_mem_cons.mpr ⟨List.mem_cons_of_mem _ (List.mem_append_left _ (List.mem_append_left _ (List.mem_of_getElem? (i := 11) rfl))), List.forall_mem_cons.mpr ⟨List.mem_cons_of_mem _ (List.mem_append_left _ (List.mem_append_left _ (List.mem_of_getElem? (i := 12) rfl))), List.forall_mem_cons.mpr ⟨List.mem_cons_of_mem _ (List.mem_append_left _ (List.mem_append_left _ (List.mem_of_getElem? (i := 3) rfl))), (fun _ h => absurd h List.not_mem_nil)⟩⟩⟩⟩, List.forall_mem_cons.mpr ⟨List.mem_cons_of_mem _ (List.mem_append_left _ (List.mem_append_left _ (List.mem_of_getElem? (i := 13) rfl))), List.forall_mem_append.mpr ⟨List.forall_mem_append.mpr ⟨List.forall_mem_cons.mpr ⟨List.mem_cons_of_mem _ (List.mem_append_left _ (List.mem_append_left _ (List.mem_of_getElem? (i := 14) rfl))), List.forall_mem_cons.mpr ⟨List.mem_cons_of_mem _ (List.mem_append_left _ (List.mem_append_left _ (List.mem_of_getElem? (i := 15) rfl))), List.forall_mem_cons.mpr ⟨List.mem_cons_of_mem _ (List.mem_append_left _ (List.mem_append_right _ (List.mem_append_left _ (List.mem_of_getElem? (i := 0) rfl)))), List.forall_mem_cons.mpr ⟨List.mem_cons_of_mem _ (List.mem_append_left _ (List.mem_append_left _ (List.mem_of_getElem? (i := 3) rfl))), List.forall_mem_cons.mpr ⟨List.mem_cons_of_mem _ (List.mem_append_left _ (List.mem_append_right _ (List.mem_append_left _ (List.mem_of_getElem? (i := 1) rfl)))), List.forall_mem_cons.mpr ⟨List.mem_cons_of_mem _ (List.mem_append_left _ (List.mem_append_right _ (List.mem_append_left _ (List.mem_of_getElem? (i := 2) rfl)))), List.forall_mem_cons.mpr ⟨List.mem_cons_of_mem _ (List.mem_append_left _ (List.mem_append_right _ (List.mem_append_left _ (List.mem_of_getElem? (i := 3) rfl)))), List.forall_mem_cons.mpr ⟨List.mem_cons_of_mem _ (List.mem_append_left _ (List.mem_append_right _ (List.mem_append_left _ (List.mem_of_getElem? (i := 4) rfl)))), List.forall_mem_cons.mpr ⟨List.mem_cons_of_mem _ (List.mem_append_left _ (List.mem_append_right _ (List.mem_append_left _ (List.mem_of_getElem? (i := 5) rfl)))), List.forall_mem_cons.mpr ⟨List.mem_cons_of_mem _ (List.mem_append_left _ (List.mem_append_right _ (List.mem_append_left _ (List.mem_of_getElem? (i := 6) rfl)))), List.forall_mem_cons.mpr ⟨List.mem_cons_of_mem _ (List.mem_append_left _ (List.mem_append_right _ (List.mem_append_left _ (List.mem_of_getElem? (i := 7) rfl)))), List.forall_mem_cons.mpr ⟨List.mem_cons_of_mem _ (List.mem_append_left _ (List.mem_append_right _ (List.mem_append_left _ (List.mem_of_getElem? (i := 8) rfl)))), List.forall_mem_cons.mpr ⟨List.mem_cons_of_mem _ (List.mem_append_left _ (List.mem_append_right _ (List.mem_append_left _ (List.mem_of_getElem? (i := 9) rfl)))), List.forall_mem_cons.mpr ⟨List.mem_cons_of_mem _ (List.mem_append_left _ (List.mem_append_right _ (List.mem_append_left _ (List.mem_of_getElem? (i := 10) rfl)))), List.forall_mem_cons.mpr ⟨List.mem_cons_of_mem _ (List.mem_append_left _ (List.mem_append_right _ (List.mem_append_left _ (List.mem_of_getElem? (i := 11) rfl)))), List.forall_mem_cons.mpr ⟨List.mem_cons_of_mem _ (List.mem_append_left _ (List.mem_append_right _ (List.mem_append_left _ (List.mem_of_getElem? (i := 12) rfl)))), (fun _ h => absurd h List.not_mem_nil)⟩⟩⟩⟩⟩⟩⟩⟩⟩⟩⟩⟩⟩⟩⟩⟩, List.forall_mem_cons.mpr ⟨List.mem_cons_of_mem _ (List.mem_append_left _ (List.mem_append_right _ (List.mem_append_left _ (List.mem_of_getElem? (i := 13) rfl)))), List.forall_mem_cons.mpr ⟨List.mem_cons_of_mem _ (List.mem_append_left _ (List.mem_append_right _ (List.mem_append_left _ (List.mem_of_getElem? (i := 14) rfl)))), List.forall_mem_cons.mpr ⟨List.mem_cons_of_mem _ (List.mem_append_left _ (List.mem_append_right _ (List.mem_append_left _ (List.mem_of_getElem? (i := 15) rfl)))), (fun _ h => absurd h List.not_mem_nil)⟩⟩⟩⟩, (fun _ h => List.mem_cons_of_mem _ (List.mem_append_right _ h))⟩⟩⟩) (by decide +kernel)
set_option maxRecDepth 20000 in
theorem gm_X12_flag_X12_meets : GoodIn wm_X12_flag (wsV RX12 233 RX12 yX12_meets wm_X12_meets) := goodIn_w (List.forall_mem_append.mpr ⟨List.forall_mem_cons.mpr ⟨List.mem_cons_of_mem _ (List.mem_append_left _ (List.mem_append_right _ (List.mem_append_right _ (List.mem_append_left _ (List.mem_of_getElem? (i := 0) rfl))))), List.forall_mem_cons.mpr ⟨List.mem_cons_of_mem _ (List.mem_append_left _ (List.mem_append_right _ (List.mem_append_right _ (List.mem_append_left _ (List.mem_of_getElem? (i := 1) rfl))))), List.forall_mem_cons.mpr ⟨List.mem_cons_of_mem _ (List.mem_append_left _ (List.mem_append_right _ (List.mem_append_right _ (List.mem_append_left _ (List.mem_of_getElem? (i := 2) rfl))))), List.forall_mem_cons.mpr ⟨List.mem_cons_of_mem _ (List.mem_append_left _ (List.mem_append_left _ (List.mem_of_getElem? (i := 3) rfl))), (fun _ h => absurd h List.not_mem_nil)⟩⟩⟩⟩, List.forall_mem_cons.mpr ⟨List.mem_cons_of_mem _ (List.mem_append_left _ (List.mem_append_right _ (List.mem_append_right _ (List.mem_append_left _ (List.mem_of_getElem? (i := 3) rfl))))), List.forall_mem_append.mpr ⟨List.forall_mem_cons.mpr ⟨List.mem_cons_of_mem _ (List.mem_append_left _ (List.mem_append_right _ (List.mem_append_right _ (List.mem_append_left _ (List.mem_of_getElem? (i := 4) rfl))))), List.forall_mem_cons.mpr ⟨List.mem_cons_of_mem _ (List.mem_append_left _ (List.mem_append_right _ (List.mem_append_right _ (List.mem_append_left _ (List.mem_of_getElem? (i := 5) rfl))))), (fun _ h => absurd h List.not_mem_nil)⟩⟩, (fun _ h => List.mem_cons_of_mem _ (List.mem_append_right _ h))⟩⟩⟩) (by decide +kernel)
set_option maxRecDepth 20000 in
theorem gm_X12_flag_X12_saidFlag : GoodIn wm_X12_flag (wsV RX12 256 RX12 yX12_saidFlag wm_X12_saidFlag) := goodIn_w (List.forall_mem_append.mpr ⟨List.forall_mem_cons.mpr ⟨List.mem_cons_of_mem _ (List.mem_append_left _ (List.mem_append_right _ (List.mem_append_right _ (List.mem_append_left _ (List.mem_of_getElem? (i := 6) rfl))))), List.forall_mem_cons.mpr ⟨List.mem_cons_of_mem _ (List.mem_append_left _ (List.mem_append_right _ (List.mem_append_right _ (List.mem_append_left _ (List.mem_of_getElem? (i := 7) rfl))))), List.forall_mem_cons.mpr ⟨List.mem_cons_of_mem _ (List.mem_append_left _ (List.mem_append_right _ (List.mem_append_right _ (List.mem_append_left _ (List.mem_of_getElem? (i := 8) rfl))))), List.forall_mem_cons.mpr ⟨List.mem_cons_of_mem _ (List.mem_append_left _ (List.mem_append_left _ (List.mem_of_getElem? (i := 3) rfl))), (fun _ h => absurd h List.not_mem_nil)⟩⟩⟩⟩, List.forall_mem_cons.mpr ⟨List.mem_cons_of_mem _ (List.mem_append_left _ (List.mem_append_right _ (List.mem_append_right _ (List.mem_append_left _ (List.mem_of_getElem? (i := 9) rfl))))), List.forall_mem_append.mpr ⟨List.forall_mem_append.mpr ⟨List.forall_mem_cons.mpr ⟨List.mem_cons_of_mem _ (List.mem_append_left _ (List.mem_append_right _ (List.mem_append_right _ (List.mem_append_left _ (List.mem_of_getElem? (i := 10) rfl))))), List.forall_mem_cons.mpr ⟨List.mem_cons_of_mem _ (List.mem_append_left _ (List.mem_append_right _ (List.mem_append_right _ (List.mem_append_left _ (List.mem_of_getElem? (i := 11) rfl))))), List.forall_mem_cons.mpr ⟨List.mem_cons_of_mem _ (List.mem_append_left _ (List.mem_append_right _ (List.mem_append_right _ (List.mem_append_left _ (List.mem_of_getElem? (i := 12) rfl))))), List.forall_mem_cons.mpr ⟨List.mem_cons_of_mem _ (List.mem_append_left _ (List.mem_append_left _ (List.mem_of_getElem? (i := 3) rfl))), List.forall_mem_cons.mpr ⟨List.mem_cons_of_mem _ (List.mem_append_left _ (List.mem_append_right _ (List.mem_append_right _ (List.mem_append_left _ (List.mem_of_getElem? (i := 13) rfl))))), List.forall_mem_cons.mpr ⟨List.mem_cons_of_mem _ (List.mem_append_left _ (List.mem_append_right _ (List.mem_append_right _ (List.mem_append_left _ (List.mem_of_getElem? (i := 14) rfl))))), List.forall_mem_cons.mpr ⟨List.mem_cons_of_mem _ (List.mem_append_left _ (List.mem_append_right _ (List.mem_append_right _ (List.mem_append_left _ (List.mem_of_getElem? (i := 15) rfl))))), List.forall_mem_cons.mpr ⟨List.mem_cons_of_mem _ (List.mem_append_left _ (List.mem_append_right _ (List.mem_append_right _ (List.mem_append_right _ (List.mem_of_getElem? (i := 0) rfl))))), List.forall_mem_cons.mpr ⟨List.mem_cons_of_mem _ (List.mem_append_left _ (List.mem_append_right _ (List.mem_append_right _ (List.mem_append_right _ (List.mem_of_getElem? (i := 1) rfl))))), List.forall_mem_cons.mpr ⟨List.mem_cons_of_mem _ (List.mem_append_left _ (List.mem_append_right _ (List.mem_append_right _ (List.mem_append_right _ (List.mem_of_getElem? (i := 2) rfl))))), List.forall_mem_cons.mpr ⟨List.mem_cons_of_mem _ (List.mem_append_left _ (List.mem_append_right _ (List.mem_append_right _ (List.mem_append_right _ (List.mem_of_getElem? (i := 3) rfl))))), List.forall_mem_cons.mpr ⟨List.mem_cons_of_mem _ (List.mem_append_left _ (List.mem_append_right _ (List.mem_append_left _ (List.mem_of_getElem? (i := 2) rfl)))), List.forall_mem_cons.mpr ⟨List.mem_cons_of_mem _ (List.mem_append_left _ (List.mem_append_left _ (List.mem_of_getElem? (i := 14) rfl))), List.forall_mem_cons.mpr ⟨List.mem_cons_of_mem _ (List.mem_append_left _ (List.mem_append_left _ (List.mem_of_getElem? (i := 15) rfl))), List.forall_mem_cons.mpr ⟨List.mem_cons_of_mem _ (List.mem_append_left _ (List.mem_append_right _ (List.mem_append_left _ (List.mem_of_getElem? (i := 0) rfl)))), List.forall_mem_cons.mpr ⟨List.mem_cons_of_mem _ (List.mem_append_left _ (List.mem_append_right _ (List.mem_append_left _ (List.mem_of_getElem? (i := 1) rfl)))), (fun _ h => absurd h List.not_mem_nil)⟩⟩⟩⟩⟩⟩⟩⟩⟩⟩⟩⟩⟩⟩⟩⟩, List.forall_mem_cons.mpr ⟨List.mem_cons_of_mem _ (List.mem_append_left _ (List.mem_append_right _ (List.mem_append_left _ (List.mem_of_getElem? (i := 3) rfl)))), List.forall_mem_cons.mpr ⟨List.mem_cons_of_mem _ (List.mem_append_left _ (List.mem_append_right _ (List.mem_append_right _ (List.mem_append_right _ (List.mem_of_getElem? (i := 4) rfl))))), (fun _ h => absurd h List.not_mem_nil)⟩⟩⟩, (fun _ h => List.mem_cons_of_mem _ (List.mem_append_right _ h))⟩⟩⟩) (by decide +kernel)
set_option maxHeartbeats 4000000 in
set_option maxRecDepth 100000 in
theorem s_X12_flag (l : Launch) (D : va_G) (sz : Nat) (o : Nat) (a : Nat → Nat) (t : Nat → ClassId) (i : Nat → Int32) (q : Int64) (c : Nat → Nat → Int32) (d : Nat → Nat → Int64) (w : Int32) (f : Int32) (hI : mInv i c) : Met l yX12_flag wm_X12_flag ({ frames := 4, cells := 0, slots := 0, locals := 87 }) (va_Pc [.ref o, .int w, .int f] (pB D sz (mW o a t i q c d) (mT t))) (va_Qi (fun (r : Int32) (u : MS) => True ∧ mInv u.1 u.2.2.1 ∧ (∀ k, k ∉ ([0] : List Nat) → u.1 k = i k) ∧ (∀ k, k ∉ ([1] : List Nat) → u.2.2.1 k = c k)) (oC D (va_A (mW o a t i q c d) sz) (fun u : MS => mW o a t u.1 u.2.1 u.2.2.1 u.2.2.2) (fun _ => [])) (va_A (mW o a t i q c d) sz)) 0 0 (va_A (mW o a t i q c d) sz) := by
  refine Met.ofW (cc := cX12_flag) (maxL := 3) (ret := (some .int)) (by decide +kernel) rfl ?_
  intro p e s m args below meth cd s₁ B hml hv
  obtain ⟨rfl, hsz, hP, hK, hD0⟩ := hv
  have hx := B.exec
  have hb := B.bytes
  have hr := B.returns
  have hts := atoms_spec (ws := wm_X12_flag) B.pre
  have hown : s.vm.findClass RX12 = some m.cls := findClass_of_methodNamed B.named
  have hlocks := B.notSynchronized
  subst hsz
  have hD := hD0.self (sz := s.heap.size)
  generalize hAe : va_A (mW o a t i q c d) s.heap.size = A at hD ⊢
  have hA : ∀ q : Nat, s.heap.size ≤ q → A q := fun q h => by rw [← hAe]; exact Or.inr h
  have hS : va_S A s.heap s.heap [] := va_S.rf
  have hfi : ∀ k, k ∉ ([] : List Nat) → i k = i k := fun _ _ => rfl
  have hfc : ∀ k, k ∉ ([] : List Nat) → c k = c k := fun _ _ => rfl
  have hl := lv_entry ([.ref o, .int w, .int f]) (n := 3) (Nat.le_of_ble_eq_true rfl)
  rw [lg_entry_eq]
  generalize (lg_sl ([.ref o, .int w, .int f]) ++ List.replicate (3 - (lg_sl ([.ref o, .int w, .int f])).length) Slot.unset).toArray = ls at hl ⊢
  have hl : lv_has ls 3 [(0, .ref o), (1, .int w), (2, .int f)] := hl
  refine lv_aload_n hx hb dX12_flag_0 rfl (lv_at hl 0 rfl) ?_
  refine lv_iload_n hx hb dX12_flag_1 rfl (lv_at hl 1 rfl) ?_
  have rb5_i : 0 ≤ (i 5).toInt ∧ (i 5).toInt ≤ 30 := hI.1 5
  refine ro_calli (va_runV (As := [.int w]) (rest := []) ⟨hx, hb, hml, hown, hts⟩ (s_X12_isObject l D s.heap.size o a t i q c d w hI ) (cwV 1 hts gm_X12_flag_X12_isObject rfl rfl rfl (by decide +kernel) ⟨Nat.le_of_ble_eq_true rfl, Nat.le_of_ble_eq_true rfl⟩) (pA_V hK hP (ci := 12) (q0 := 0) rfl rfl) rfl rfl hl.1 rfl (lv_room (Nat.le_of_ble_eq_true rfl)) dX12_flag_2 ⟨Nat.le_of_ble_eq_true rfl, Nat.le_of_ble_eq_true rfl⟩) hS hA hP (fun r1 u1 H locs hw1 hP hS => ?_)
  have hw1 : r1 = if (0 ≤ w.toInt ∧ w.toInt ≤ (i 5).toInt - 1) then 1 else 0 := hw1
  refine lv_if_eq (tgt := 20) hx hb dX12_flag_5 (by decide +kernel) (fun c2 => ?_) (fun c2 => ?_)
  · have f2 := fl_f hw1 c2
    refine lv_iconst (v := (-1)) hx hb dX12_flag_20 (by decide +kernel) ?_
    exact rw_iret (i, q, c, d) hx hb hr hlocks hS (hK.sub (tys' := []) [] rfl) hP hD dX12_flag_21 ⟨trivial, hI, fr_w hfi (by decide +kernel), fr_w hfc (by decide +kernel)⟩
  · have f2 := fl_t hw1 c2
    refine lv_iload_n hx hb dX12_flag_8 rfl (lv_at hl 2 rfl) ?_
    refine lv_i2l (v := f.toInt64) hx hb dX12_flag_9 rfl ?_
    refine lv_lconst (v := 0) hx hb dX12_flag_10 (by decide +kernel) ?_
    refine lv_ldc2 (v := 5) hx hb hown (hts (.constantLong RX12 170 (5)) (List.mem_cons_of_mem _ (List.mem_append_left _ (List.mem_append_left _ (List.mem_of_getElem? (i := 9) rfl))))) dX12_flag_11 ?_
    have hPc := hP.sub (ws' := []) [] rfl
    have hKc := hK.sub (tys' := []) [] rfl
    refine ro_calli (va_runS (As := [.long f.toInt64, .long 0, .long 5]) (rest := []) ⟨hx, hb, hml, hown, hts⟩ (c_X12_in l D H.size f.toInt64 0 5 f.toInt 0 5 ((Int32.toInt_toInt64 f).trans rfl) (by decide +kernel) (by decide +kernel)) (va_cwS 3 hts gm_X12_flag_X12_in rfl rfl rfl (by decide +kernel) ⟨Nat.le_of_ble_eq_true rfl, Nat.le_of_ble_eq_true rfl⟩) (pA_S hKc hPc) rfl rfl hl.1 rfl (lv_room (Nat.le_of_ble_eq_true rfl)) dX12_flag_14 ⟨Nat.le_of_ble_eq_true rfl, Nat.le_of_ble_eq_true rfl⟩) hS hA hP (fun r3 u3 H locs hw3 hP hS => ?_)
    have hw3 : r3 = if (0 ≤ f.toInt ∧ f.toInt ≤ 5) then 1 else 0 := hw3
    refine lv_if_ne (tgt := 22) hx hb dX12_flag_17 (by decide +kernel) (fun c4 => ?_) (fun c4 => ?_)
    · have f4 := fl_t hw3 c4
      refine lv_aload_n hx hb dX12_flag_22 rfl (lv_at hl 0 rfl) ?_
      refine lv_iload_n hx hb dX12_flag_23 rfl (lv_at hl 1 rfl) ?_
      refine lv_iload_n hx hb dX12_flag_24 rfl (lv_at hl 2 rfl) ?_
      refine ro_calli (va_runV (As := [.int w, .int f]) (rest := []) ⟨hx, hb, hml, hown, hts⟩ (s_X12_mayHave l D H.size o a t i q c d w f hI (show 0 ≤ w.toInt ∧ w.toInt ≤ 29 from by omega)) (cwV 2 hts gm_X12_flag_X12_mayHave rfl rfl rfl (by decide +kernel) ⟨Nat.le_of_ble_eq_true rfl, Nat.le_of_ble_eq_true rfl⟩) (pA_V hK hP (ci := 12) (q0 := 0) rfl rfl) rfl rfl hl.1 rfl (lv_room (Nat.le_of_ble_eq_true rfl)) dX12_flag_25 ⟨Nat.le_of_ble_eq_true rfl, Nat.le_of_ble_eq_true rfl⟩) hS hA hP (fun r5 u5 H locs hw5 hP hS => ?_)
      have hw5 : (0 ≤ r5.toInt ∧ r5.toInt ≤ 1) := hw5
      refine lv_if_eq (tgt := 40) hx hb dX12_flag_28 (by decide +kernel) (fun c6 => ?_) (fun c6 => ?_)
      · have f6 := (ti_eq (a := r5.toInt) (b := 0) rfl (by decide +kernel)).mp c6
        refine lv_aload_n hx hb dX12_flag_40 rfl (lv_at hl 0 rfl) ?_
        refine lv_iconst (v := 3) hx hb dX12_flag_41 (by decide +kernel) ?_
        refine al_calli (va_runV (As := [.int 3]) (rest := []) ⟨hx, hb, hml, hown, hts⟩ (s_X12_meets l D H.size o a t i q c d 3 hI (show 1 ≤ 3 ∧ 3 ≤ 6 from by decide +kernel)) (cwV 1 hts gm_X12_flag_X12_meets rfl rfl rfl (by decide +kernel) ⟨Nat.le_of_ble_eq_true rfl, Nat.le_of_ble_eq_true rfl⟩) (pB_V hK hP hD (ci := 12) (q0 := 0) rfl rfl) rfl rfl hl.1 rfl (lv_room (Nat.le_of_ble_eq_true rfl)) dX12_flag_42 ⟨Nat.le_of_ble_eq_true rfl, Nat.le_of_ble_eq_true rfl⟩) hS hA hP hD (fun r7 u7 H locs hw7 hP hD hS => ?_)
        obtain ⟨i7, q7, c7, d7⟩ := u7
        have hw7 : r7 = (-3) ∧ mInv i7 c7 ∧ (∀ k, k ∉ ([0] : List Nat) → i7 k = i k) ∧ (∀ k, k ∉ ([1] : List Nat) → c7 k = c k) := hw7
        obtain ⟨hw7, hI, hei7, hec7⟩ := hw7
        have hfi : ∀ k, k ∉ ([0] : List Nat) → i7 k = i k := fr_z hfi hei7 (by decide +kernel) (by decide +kernel)
        have hfc : ∀ k, k ∉ ([1] : List Nat) → c7 k = c k := fr_z hfc hec7 (by decide +kernel) (by decide +kernel)
        have hP : va_P D vwCl (mW o a t i7 q7 c7 d7) H := hP
        have hD : va_D A (mW o a t i7 q7 c7 d7) := hD
        have hw7 : r7 = (-3) := hw7
        subst hw7
        exact rw_iret (i7, q7, c7, d7) hx hb hr hlocks hS (hK.sub (tys' := []) [] rfl) hP hD dX12_flag_45 ⟨trivial, hI, fr_w hfi (by decide +kernel), fr_w hfc (by decide +kernel)⟩
      · have f6 := mt (ti_eq (a := r5.toInt) (b := 0) rfl (by decide +kernel)).mpr c6
        refine lv_aload_n hx hb dX12_flag_31 rfl (lv_at hl 0 rfl) ?_
        refine lv_iload_n hx hb dX12_flag_32 rfl (lv_at hl 1 rfl) ?_
        refine lv_iload_n hx hb dX12_flag_33 rfl (lv_at hl 2 rfl) ?_
        refine ro_calli (va_runV (As := [.int w, .int f]) (rest := []) ⟨hx, hb, hml, hown, hts⟩ (s_X12_saidFlag l D H.size o a t i q c d w f hI (show 0 ≤ w.toInt ∧ w.toInt ≤ 29 from by omega) (show 0 ≤ f.toInt ∧ f.toInt ≤ 5 from by omega)) (cwV 2 hts gm_X12_flag_X12_saidFlag rfl rfl rfl (by decide +kernel) ⟨Nat.le_of_ble_eq_true rfl, Nat.le_of_ble_eq_true rfl⟩) (pA_V hK hP (ci := 12) (q0 := 0) rfl rfl) rfl rfl hl.1 rfl (lv_room (Nat.le_of_ble_eq_true rfl)) dX12_flag_34 ⟨Nat.le_of_ble_eq_true rfl, Nat.le_of_ble_eq_true rfl⟩) hS hA hP (fun r8 u8 H locs hw8 hP hS => ?_)
        have hw8 : (r8.toInt = -9 ∨ (0 ≤ r8.toInt ∧ r8.toInt ≤ 1)) := hw8
        refine lv_goto (tgt := 45) hx hb dX12_flag_37 (by decide +kernel) ?_
        exact rw_iret (i, q, c, d) hx hb hr hlocks hS (hK.sub (tys' := []) [] rfl) hP hD dX12_flag_45 ⟨trivial, hI, fr_w hfi (by decide +kernel), fr_w hfc (by decide +kernel)⟩
    · have f4 := fl_f hw3 c4
      refine lv_iconst (v := (-1)) hx hb dX12_flag_20 (by decide +kernel) ?_
      exact rw_iret (i, q, c, d) hx hb hr hlocks hS (hK.sub (tys' := []) [] rfl) hP hD dX12_flag_21 ⟨trivial, hI, fr_w hfi (by decide +kernel), fr_w hfc (by decide +kernel)⟩

def wm_X12_key : List Cond := .code yX12_key cX12_key 2 (some .int) :: ((([.methodLink RX12 180 yX12_isObject, .instanceMethod yX12_isObject, .selects RX12 yX12_isObject yX12_isObject, .initialized RX12, .code yX12_isObject cX12_isObject 2 (some .boolean), .fieldLink RX12 177 "TalePlayModel" "objects" "I", .methodLink RX12 166 yX12_in, .static yX12_in, .code yX12_in cX12_in 6 (some .boolean), .methodLink RX12 191 yX12_isShutter, .instanceMethod yX12_isShutter, .selects RX12 yX12_isShutter yX12_isShutter, .code yX12_isShutter cX12_isShutter 2 (some .boolean), .methodLink RX12 184 yX12_isOf, .instanceMethod yX12_isOf, .selects RX12 yX12_isOf yX12_isOf] : List Cond) ++ (([.code yX12_isOf cX12_isOf 4 (some .boolean), .fieldLink RX12 19 "TalePlayModel" "kindOf" "[I", .fieldLink RX12 13 "TalePlayModel" "parentOf" "[I", .methodLink RX12 233 yX12_meets, .instanceMethod yX12_meets, .selects RX12 yX12_meets yX12_meets, .code yX12_meets cX12_meets 2 (some .int), .fieldLink RX12 161 "TalePlayModel" "latest" "I", .fieldLink RX12 7 "TalePlayModel" "came" "[I", .methodLink RX12 260 yX12_keyOf, .instanceMethod yX12_keyOf, .selects RX12 yX12_keyOf yX12_keyOf, .code yX12_keyOf cX12_keyOf 3 (some .int), .fieldLink RX12 202 "TalePlayModel" "sentences" "I", .fieldLink RX12 37 "TalePlayModel" "isSaid" "[Z", .fieldLink RX12 25 "TalePlayModel" "form" "[I"] : List Cond) ++ ([.fieldLink RX12 31 "TalePlayModel" "middle" "[I", .fieldLink RX12 28 "TalePlayModel" "left" "[I"] : List Cond))) ++ wsX120)
set_option maxRecDepth 20000 in
theorem gm_X12_key_X12_isObject : GoodIn wm_X12_key (wsV RX12 180 RX12 yX12_isObject wm_X12_isObject) := goodIn_w (List.forall_mem_append.mpr ⟨List.forall_mem_cons.mpr ⟨List.mem_cons_of_mem _ (List.mem_append_left _ (List.mem_append_left _ (List.mem_of_getElem? (i := 0) rfl))), List.forall_mem_cons.mpr ⟨List.mem_cons_of_mem _ (List.mem_append_left _ (List.mem_append_left _ (List.mem_of_getElem? (i := 1) rfl))), List.forall_mem_cons.mpr ⟨List.mem_cons_of_mem _ (List.mem_append_left _ (List.mem_append_left _ (List.mem_of_getElem? (i := 2) rfl))), List.forall_mem_cons.mpr ⟨List.mem_cons_of_mem _ (List.mem_append_left _ (List.mem_append_left _ (List.mem_of_getElem? (i := 3) rfl))), (fun _ h => absurd h List.not_mem_nil)⟩⟩⟩⟩, List.forall_mem_cons.mpr ⟨List.mem_cons_of_mem _ (List.mem_append_left _ (List.mem_append_left _ (List.mem_of_getElem? (i := 4) rfl))), List.forall_mem_append.mpr ⟨List.forall_mem_cons.mpr ⟨List.mem_cons_of_mem _ (List.mem_append_left _ (List.mem_append_left _ (List.mem_of_getElem? (i := 5) rfl))), List.forall_mem_cons.mpr ⟨List.mem_cons_of_mem _ (List.mem_append_left _ (List.mem_append_left _ (List.mem_of_getElem? (i := 6) rfl))), List.forall_mem_cons.mpr ⟨List.mem_cons_of_mem _ (List.mem_append_left _ (List.mem_append_left _ (List.mem_of_getElem? (i := 7) rfl))), List.forall_mem_cons.mpr ⟨List.mem_cons_of_mem _ (List.mem_append_left _ (List.mem_append_left _ (List.mem_of_getElem? (i := 3) rfl))), List.forall_mem_cons.mpr ⟨List.mem_cons_of_mem _ (List.mem_append_left _ (List.mem_append_left _ (List.mem_of_getElem? (i := 8) rfl))), (fun _ h => absurd h List.not_mem_nil)⟩⟩⟩⟩⟩, (fun _ h => List.mem_cons_of_mem _ (List.mem_append_right _ h))⟩⟩⟩) (by decide +kernel)
set_option maxRecDepth 20000 in
theorem gm_X12_key_X12_isShutter : GoodIn wm_X12_key (wsV RX12 191 RX12 yX12_isShutter wm_X12_isShutter) := goodIn_w (List.forall_mem_append.mpr ⟨List.forall_mem_cons.mpr ⟨List.mem_cons_of_mem _ (List.mem_append_left _ (List.mem_append_left _ (List.mem_of_getElem? (i := 9) rfl))), List.forall_mem_cons.mpr ⟨List.mem_cons_of_mem _ (List.mem_append_left _ (List.mem_append_left _ (List.mem_of_getElem? (i := 10) rfl))), List.forall_mem_cons.mpr ⟨List.mem_cons_of_mem _ (List.mem_append_left _ (List.mem_append_left _ (List.mem_of_getElem? (i := 11) rfl))), List.forall_mem_cons.mpr ⟨List.mem_cons_of_mem _ (List.mem_append_left _ (List.mem_append_left _ (List.mem_of_getElem? (i := 3) rfl))), (fun _ h => absurd h List.not_mem_nil)⟩⟩⟩⟩, List.forall_mem_cons.mpr ⟨List.mem_cons_of_mem _ (List.mem_append_left _ (List.mem_append_left _ (List.mem_of_getElem? (i := 12) rfl))), List.forall_mem_append.mpr ⟨List.forall_mem_cons.mpr ⟨List.mem_cons_of_mem _ (List.mem_append_left _ (List.mem_append_left _ (List.mem_of_getElem? (i := 13) rfl))), List.forall_mem_cons.mpr ⟨List.mem_cons_of_mem _ (List.mem_append_left _ (List.mem_append_left _ (List.mem_of_getElem? (i := 14) rfl))), List.forall_mem_cons.mpr ⟨List.mem_cons_of_mem _ (List.mem_append_left _ (List.mem_append_left _ (List.mem_of_getElem? (i := 15) rfl))), List.forall_mem_cons.mpr ⟨List.mem_cons_of_mem _ (List.mem_append_left _ (List.mem_append_left _ (List.mem_of_getElem? (i := 3) rfl))), List.forall_mem_cons.mpr ⟨List.mem_cons_of_mem _ (List.mem_append_left _ (List.mem_append_right _ (List.mem_append_left _ (List.mem_of_getElem? (i := 0) rfl)))), List.forall_mem_cons.mpr ⟨List.mem_cons_of_mem _ (List.mem_append_left _ (List.mem_append_right _ (List.mem_append_left _ (List.mem_of_getElem? (i := 1) rfl)))), List.forall_mem_cons.mpr ⟨List.mem_cons_of_mem _ (List.mem_append_left _ (List.mem_append_right _ (List.mem_append_left _ (List.mem_of_getElem? (i := 2) rfl)))), (fun _ h => absurd h List.not_mem_nil)⟩⟩⟩⟩⟩⟩⟩, (fun _ h => List.mem_cons_of_mem _ (List.mem_append_right _ h))⟩⟩⟩) (by decide +kernel)
set_option maxRecDepth 20000 in
theorem gm_X12_key_X12_meets : GoodIn wm_X12_key (wsV RX12 233 RX12 yX12_meets wm_X12_meets) := goodIn_w (List.forall_mem_append.mpr ⟨List.forall_mem_cons.mpr ⟨List.mem_cons_of_mem _ (List.mem_append_left _ (List.mem_append_right _ (List.mem_append_left _ (List.mem_of_getElem? (i := 3) rfl)))), List.forall_mem_cons.mpr ⟨List.mem_cons_of_mem _ (List.mem_append_left _ (List.mem_append_right _ (List.mem_append_left _ (List.mem_of_getElem? (i := 4) rfl)))), List.forall_mem_cons.mpr ⟨List.mem_cons_of_mem _ (List.mem_append_left _ (List.mem_append_right _ (List.mem_append_left _ (List.mem_of_getElem? (i := 5) rfl)))), List.forall_mem_cons.mpr ⟨List.mem_cons_of_mem _ (List.mem_append_left _ (List.mem_append_left _ (List.mem_of_getElem? (i := 3) rfl))), (fun _ h => absurd h List.not_mem_nil)⟩⟩⟩⟩, List.forall_mem_cons.mpr ⟨List.mem_cons_of_mem _ (List.mem_append_left _ (List.mem_append_right _ (List.mem_append_left _ (List.mem_of_getElem? (i := 6) rfl)))), List.forall_mem_append.mpr ⟨List.forall_mem_cons.mpr ⟨List.mem_cons_of_mem _ (List.mem_append_left _ (List.mem_append_right _ (List.mem_append_left _ (List.mem_of_getElem? (i := 7) rfl)))), List.forall_mem_cons.mpr ⟨List.mem_cons_of_mem _ (List.mem_append_left _ (List.mem_append_right _ (List.mem_append_left _ (List.mem_of_getElem? (i := 8) rfl)))), (fun _ h => absurd h List.not_mem_nil)⟩⟩, (fun _ h => List.mem_cons_of_mem _ (List.mem_append_right _ h))⟩⟩⟩) (by decide +kernel)
set_option maxRecDepth 20000 in
theorem gm_X12_key_X12_keyOf : GoodIn wm_X12_key (wsV RX12 260 RX12 yX12_keyOf wm_X12_keyOf) := goodIn_w (List.forall_mem_append.mpr ⟨List.forall_mem_cons.mpr ⟨List.mem_cons_of_mem _ (List.mem_append_left _ (List.mem_append_right _ (List.mem_append_left _ (List.mem_of_getElem? (i := 9) rfl)))), List.forall_mem_cons.mpr ⟨List.mem_cons_of_mem _ (List.mem_append_left _ (List.mem_append_right _ (List.mem_append_left _ (List.mem_of_getElem? (i := 10) rfl)))), List.forall_mem_cons.mpr ⟨List.mem_cons_of_mem _ (List.mem_append_left _ (List.mem_append_right _ (List.mem_append_left _ (List.mem_of_getElem? (i := 11) rfl)))), List.forall_mem_cons.mpr ⟨List.mem_cons_of_mem _ (List.mem_append_left _ (List.mem_append_left _ (List.mem_of_getElem? (i := 3) rfl))), (fun _ h => absurd h List.not_mem_nil)⟩⟩⟩⟩, List.forall_mem_cons.mpr ⟨List.mem_cons_of_mem _ (List.mem_append_left _ (List.mem_append_right _ (List.mem_append_left _ (List.mem_of_getElem? (i := 12) rfl)))), List.forall_mem_append.mpr ⟨List.forall_mem_cons.mpr ⟨List.mem_cons_of_mem _ (List.mem_append_left _ (List.mem_append_right _ (List.mem_append_left _ (List.mem_of_getElem? (i := 13) rfl)))), List.forall_mem_cons.mpr ⟨List.mem_cons_of_mem _ (List.mem_append_left _ (List.mem_append_right _ (List.mem_append_left _ (List.mem_of_getElem? (i := 14) rfl)))), List.forall_mem_cons.mpr ⟨List.mem_cons_of_mem _ (List.mem_append_left _ (List.mem_append_right _ (List.mem_append_left _ (List.mem_of_getElem? (i := 15) rfl)))), List.forall_mem_cons.mpr ⟨List.mem_cons_of_mem _ (List.mem_append_left _ (List.mem_append_right _ (List.mem_append_right _ (List.mem_of_getElem? (i := 0) rfl)))), List.forall_mem_cons.mpr ⟨List.mem_cons_of_mem _ (List.mem_append_left _ (List.mem_append_right _ (List.mem_append_right _ (List.mem_of_getElem? (i := 1) rfl)))), (fun _ h => absurd h List.not_mem_nil)⟩⟩⟩⟩⟩, (fun _ h => List.mem_cons_of_mem _ (List.mem_append_right _ h))⟩⟩⟩) (by decide +kernel)
set_option maxHeartbeats 4000000 in
set_option maxRecDepth 100000 in
theorem s_X12_key (l : Launch) (D : va_G) (sz : Nat) (o : Nat) (a : Nat → Nat) (t : Nat → ClassId) (i : Nat → Int32) (q : Int64) (c : Nat → Nat → Int32) (d : Nat → Nat → Int64) (w : Int32) (hI : mInv i c) : Met l yX12_key wm_X12_key ({ frames := 2, cells := 0, slots := 0, locals := 46 }) (va_Pc [.ref o, .int w] (pB D sz (mW o a t i q c d) (mT t))) (va_Qi (fun (r : Int32) (u : MS) => True ∧ mInv u.1 u.2.2.1 ∧ (∀ k, k ∉ ([0] : List Nat) → u.1 k = i k) ∧ (∀ k, k ∉ ([1] : List Nat) → u.2.2.1 k = c k)) (oC D (va_A (mW o a t i q c d) sz) (fun u : MS => mW o a t u.1 u.2.1 u.2.2.1 u.2.2.2) (fun _ => [])) (va_A (mW o a t i q c d) sz)) 0 0 (va_A (mW o a t i q c d) sz) := by
  refine Met.ofW (cc := cX12_key) (maxL := 2) (ret := (some .int)) (by decide +kernel) rfl ?_
  intro p e s m args below meth cd s₁ B hml hv
  obtain ⟨rfl, hsz, hP, hK, hD0⟩ := hv
  have hx := B.exec
  have hb := B.bytes
  have hr := B.returns
  have hts := atoms_spec (ws := wm_X12_key) B.pre
  have hown : s.vm.findClass RX12 = some m.cls := findClass_of_methodNamed B.named
  have hlocks := B.notSynchronized
  subst hsz
  have hD := hD0.self (sz := s.heap.size)
  generalize hAe : va_A (mW o a t i q c d) s.heap.size = A at hD ⊢
  have hA : ∀ q : Nat, s.heap.size ≤ q → A q := fun q h => by rw [← hAe]; exact Or.inr h
  have hS : va_S A s.heap s.heap [] := va_S.rf
  have hfi : ∀ k, k ∉ ([] : List Nat) → i k = i k := fun _ _ => rfl
  have hfc : ∀ k, k ∉ ([] : List Nat) → c k = c k := fun _ _ => rfl
  have hl := lv_entry ([.ref o, .int w]) (n := 2) (Nat.le_of_ble_eq_true rfl)
  rw [lg_entry_eq]
  generalize (lg_sl ([.ref o, .int w]) ++ List.replicate (2 - (lg_sl ([.ref o, .int w])).length) Slot.unset).toArray = ls at hl ⊢
  have hl : lv_has ls 2 [(0, .ref o), (1, .int w)] := hl
  refine lv_aload_n hx hb dX12_key_0 rfl (lv_at hl 0 rfl) ?_
  refine lv_iload_n hx hb dX12_key_1 rfl (lv_at hl 1 rfl) ?_
  have rb5_i : 0 ≤ (i 5).toInt ∧ (i 5).toInt ≤ 30 := hI.1 5
  refine ro_calli (va_runV (As := [.int w]) (rest := []) ⟨hx, hb, hml, hown, hts⟩ (s_X12_isObject l D s.heap.size o a t i q c d w hI ) (cwV 1 hts gm_X12_key_X12_isObject rfl rfl rfl (by decide +kernel) ⟨Nat.le_of_ble_eq_true rfl, Nat.le_of_ble_eq_true rfl⟩) (pA_V hK hP (ci := 12) (q0 := 0) rfl rfl) rfl rfl hl.1 rfl (lv_room (Nat.le_of_ble_eq_true rfl)) dX12_key_2 ⟨Nat.le_of_ble_eq_true rfl, Nat.le_of_ble_eq_true rfl⟩) hS hA hP (fun r1 u1 H locs hw1 hP hS => ?_)
  have hw1 : r1 = if (0 ≤ w.toInt ∧ w.toInt ≤ (i 5).toInt - 1) then 1 else 0 := hw1
  refine lv_if_ne (tgt := 12) hx hb dX12_key_5 (by decide +kernel) (fun c2 => ?_) (fun c2 => ?_)
  · have f2 := fl_t hw1 c2
    refine lv_aload_n hx hb dX12_key_12 rfl (lv_at hl 0 rfl) ?_
    refine lv_iload_n hx hb dX12_key_13 rfl (lv_at hl 1 rfl) ?_
    refine ro_calli (va_runV (As := [.int w]) (rest := []) ⟨hx, hb, hml, hown, hts⟩ (s_X12_isShutter l D H.size o a t i q c d w hI (show 0 ≤ w.toInt ∧ w.toInt ≤ 29 from by omega)) (cwV 1 hts gm_X12_key_X12_isShutter rfl rfl rfl (by decide +kernel) ⟨Nat.le_of_ble_eq_true rfl, Nat.le_of_ble_eq_true rfl⟩) (pA_V hK hP (ci := 12) (q0 := 0) rfl rfl) rfl rfl hl.1 rfl (lv_room (Nat.le_of_ble_eq_true rfl)) dX12_key_14 ⟨Nat.le_of_ble_eq_true rfl, Nat.le_of_ble_eq_true rfl⟩) hS hA hP (fun r3 u3 H locs hw3 hP hS => ?_)
    have hw3 : (0 ≤ r3.toInt ∧ r3.toInt ≤ 1) := hw3
    refine lv_if_eq (tgt := 28) hx hb dX12_key_17 (by decide +kernel) (fun c4 => ?_) (fun c4 => ?_)
    · have f4 := (ti_eq (a := r3.toInt) (b := 0) rfl (by decide +kernel)).mp c4
      refine lv_aload_n hx hb dX12_key_28 rfl (lv_at hl 0 rfl) ?_
      refine lv_iconst (v := 3) hx hb dX12_key_29 (by decide +kernel) ?_
      refine al_calli (va_runV (As := [.int 3]) (rest := []) ⟨hx, hb, hml, hown, hts⟩ (s_X12_meets l D H.size o a t i q c d 3 hI (show 1 ≤ 3 ∧ 3 ≤ 6 from by decide +kernel)) (cwV 1 hts gm_X12_key_X12_meets rfl rfl rfl (by decide +kernel) ⟨Nat.le_of_ble_eq_true rfl, Nat.le_of_ble_eq_true rfl⟩) (pB_V hK hP hD (ci := 12) (q0 := 0) rfl rfl) rfl rfl hl.1 rfl (lv_room (Nat.le_of_ble_eq_true rfl)) dX12_key_30 ⟨Nat.le_of_ble_eq_true rfl, Nat.le_of_ble_eq_true rfl⟩) hS hA hP hD (fun r5 u5 H locs hw5 hP hD hS => ?_)
      obtain ⟨i5, q5, c5, d5⟩ := u5
      have hw5 : r5 = (-3) ∧ mInv i5 c5 ∧ (∀ k, k ∉ ([0] : List Nat) → i5 k = i k) ∧ (∀ k, k ∉ ([1] : List Nat) → c5 k = c k) := hw5
      obtain ⟨hw5, hI, hei5, hec5⟩ := hw5
      have hfi : ∀ k, k ∉ ([0] : List Nat) → i5 k = i k := fr_z hfi hei5 (by decide +kernel) (by decide +kernel)
      have hfc : ∀ k, k ∉ ([1] : List Nat) → c5 k = c k := fr_z hfc hec5 (by decide +kernel) (by decide +kernel)
      have hP : va_P D vwCl (mW o a t i5 q5 c5 d5) H := hP
      have hD : va_D A (mW o a t i5 q5 c5 d5) := hD
      have hw5 : r5 = (-3) := hw5
      subst hw5
      exact rw_iret (i5, q5, c5, d5) hx hb hr hlocks hS (hK.sub (tys' := []) [] rfl) hP hD dX12_key_33 ⟨trivial, hI, fr_w hfi (by decide +kernel), fr_w hfc (by decide +kernel)⟩
    · have f4 := mt (ti_eq (a := r3.toInt) (b := 0) rfl (by decide +kernel)).mpr c4
      refine lv_aload_n hx hb dX12_key_20 rfl (lv_at hl 0 rfl) ?_
      refine lv_iload_n hx hb dX12_key_21 rfl (lv_at hl 1 rfl) ?_
      refine ro_calli (va_runV (As := [.int w]) (rest := []) ⟨hx, hb, hml, hown, hts⟩ (s_X12_keyOf l D H.size o a t i q c d w hI ) (cwV 1 hts gm_X12_key_X12_keyOf rfl rfl rfl (by decide +kernel) ⟨Nat.le_of_ble_eq_true rfl, Nat.le_of_ble_eq_true rfl⟩) (pA_V hK hP (ci := 12) (q0 := 0) rfl rfl) rfl rfl hl.1 rfl (lv_room (Nat.le_of_ble_eq_true rfl)) dX12_key_22 ⟨Nat.le_of_ble_eq_true rfl, Nat.le_of_ble_eq_true rfl⟩) hS hA hP (fun r6 u6 H locs hw6 hP hS => ?_)
      have hw6 : (r6.toInt = -9 ∨ (0 ≤ r6.toInt ∧ r6.toInt ≤ 29)) := hw6
      refine lv_goto (tgt := 33) hx hb dX12_key_25 (by decide +kernel) ?_
      exact rw_iret (i, q, c, d) hx hb hr hlocks hS (hK.sub (tys' := []) [] rfl) hP hD dX12_key_33 ⟨trivial, hI, fr_w hfi (by decide +kernel), fr_w hfc (by decide +kernel)⟩
  · have f2 := fl_f hw1 c2
    refine lv_iconst (v := (-1)) hx hb dX12_key_8 (by decide +kernel) ?_
    refine lv_goto (tgt := 33) hx hb dX12_key_9 (by decide +kernel) ?_
    exact rw_iret (i, q, c, d) hx hb hr hlocks hS (hK.sub (tys' := []) [] rfl) hP hD dX12_key_33 ⟨trivial, hI, fr_w hfi (by decide +kernel), fr_w hfc (by decide +kernel)⟩

def wm_X12_wayRefused : List Cond := .code yX12_wayRefused cX12_wayRefused 3 (some .int) :: ((([.methodLink RX12 180 yX12_isObject, .instanceMethod yX12_isObject, .selects RX12 yX12_isObject yX12_isObject, .initialized RX12, .code yX12_isObject cX12_isObject 2 (some .boolean), .fieldLink RX12 177 "TalePlayModel" "objects" "I", .methodLink RX12 166 yX12_in, .static yX12_in, .code yX12_in cX12_in 6 (some .boolean), .methodLink RX12 184 yX12_isOf, .instanceMethod yX12_isOf, .selects RX12 yX12_isOf yX12_isOf, .code yX12_isOf cX12_isOf 4 (some .boolean), .fieldLink RX12 19 "TalePlayModel" "kindOf" "[I", .fieldLink RX12 13 "TalePlayModel" "parentOf" "[I", .methodLink RX12 233 yX12_meets] : List Cond) ++ ([.instanceMethod yX12_meets, .selects RX12 yX12_meets yX12_meets, .code yX12_meets cX12_meets 2 (some .int), .fieldLink RX12 161 "TalePlayModel" "latest" "I", .fieldLink RX12 7 "TalePlayModel" "came" "[I"] : List Cond)) ++ wsX120)
set_option maxRecDepth 20000 in
theorem gm_X12_wayRefused_X12_isObject : GoodIn wm_X12_wayRefused (wsV RX12 180 RX12 yX12_isObject wm_X12_isObject) := goodIn_w (List.forall_mem_append.mpr ⟨List.forall_mem_cons.mpr ⟨List.mem_cons_of_mem _ (List.mem_append_left _ (List.mem_append_left _ (List.mem_of_getElem? (i := 0) rfl))), List.forall_mem_cons.mpr ⟨List.mem_cons_of_mem _ (List.mem_append_left _ (List.mem_append_left _ (List.mem_of_getElem? (i := 1) rfl))), List.forall_mem_cons.mpr ⟨List.mem_cons_of_mem _ (List.mem_append_left _ (List.mem_append_left _ (List.mem_of_getElem? (i := 2) rfl))), List.forall_mem_cons.mpr ⟨List.mem_cons_of_mem _ (List.mem_append_left _ (List.mem_append_left _ (List.mem_of_getElem? (i := 3) rfl))), (fun _ h => absurd h List.not_mem_nil)⟩⟩⟩⟩, List.forall_mem_cons.mpr ⟨List.mem_cons_of_mem _ (List.mem_append_left _ (List.mem_append_left _ (List.mem_of_getElem? (i := 4) rfl))), List.forall_mem_append.mpr ⟨List.forall_mem_cons.mpr ⟨List.mem_cons_of_mem _ (List.mem_append_left _ (List.mem_append_left _ (List.mem_of_getElem? (i := 5) rfl))), List.forall_mem_cons.mpr ⟨List.mem_cons_of_mem _ (List.mem_append_left _ (List.mem_append_left _ (List.mem_of_getElem? (i := 6) rfl))), List.forall_mem_cons.mpr ⟨List.mem_cons_of_mem _ (List.mem_append_left _ (List.mem_append_left _ (List.mem_of_getElem? (i := 7) rfl))), List.forall_mem_cons.mpr ⟨List.mem_cons_of_mem _ (List.mem_append_left _ (List.mem_append_left _ (List.mem_of_getElem? (i := 3) rfl))), List.forall_mem_cons.mpr ⟨List.mem_cons_of_mem _ (List.mem_append_left _ (List.mem_append_left _ (List.mem_of_getElem? (i := 8) rfl))), (fun _ h => absurd h List.not_mem_nil)⟩⟩⟩⟩⟩, (fun _ h => List.mem_cons_of_mem _ (List.mem_append_right _ h))⟩⟩⟩) (by decide +kernel)
set_option maxRecDepth 20000 in
theorem gm_X12_wayRefused_X12_isOf : GoodIn wm_X12_wayRefused (wsV RX12 184 RX12 yX12_isOf wm_X12_isOf) := goodIn_w (List.forall_mem_append.mpr ⟨List.forall_mem_cons.mpr ⟨List.mem_cons_of_mem _ (List.mem_append_left _ (List.mem_append_left _ (List.mem_of_getElem? (i := 9) rfl))), List.forall_mem_cons.mpr ⟨List.mem_cons_of_mem _ (List.mem_append_left _ (List.mem_append_left _ (List.mem_of_getElem? (i := 10) rfl))), List.forall_mem_cons.mpr ⟨List.mem_cons_of_mem _ (List.mem_append_left _ (List.mem_append_left _ (List.mem_of_getElem? (i := 11) rfl))), List.forall_mem_cons.mpr ⟨List.mem_cons_of_mem _ (List.mem_append_left _ (List.mem_append_left _ (List.mem_of_getElem? (i := 3) rfl))), (fun _ h => absurd h List.not_mem_nil)⟩⟩⟩⟩, List.forall_mem_cons.mpr ⟨List.mem_cons_of_mem _ (List.mem_append_left _ (List.mem_append_left _ (List.mem_of_getElem? (i := 12) rfl))), List.forall_mem_append.mpr ⟨List.forall_mem_cons.mpr ⟨List.mem_cons_of_mem _ (List.mem_append_left _ (List.mem_append_left _ (List.mem_of_getElem? (i := 13) rfl))), List.forall_mem_cons.mpr ⟨List.mem_cons_of_mem _ (List.mem_append_left _ (List.mem_append_left _ (List.mem_of_getElem? (i := 14) rfl))), (fun _ h => absurd h List.not_mem_nil)⟩⟩, (fun _ h => List.mem_cons_of_mem _ (List.mem_append_right _ h))⟩⟩⟩) (by decide +kernel)
set_option maxRecDepth 20000 in
theorem gm_X12_wayRefused_X12_meets : GoodIn wm_X12_wayRefused (wsV RX12 233 RX12 yX12_meets wm_X12_meets) := goodIn_w (List.forall_mem_append.mpr ⟨List.forall_mem_cons.mpr ⟨List.mem_cons_of_mem _ (List.mem_append_left _ (List.mem_append_left _ (List.mem_of_getElem? (i := 15) rfl))), List.forall_mem_cons.mpr ⟨List.mem_cons_of_mem _ (List.mem_append_left _ (List.mem_append_right _ (List.mem_of_getElem? (i := 0) rfl))), List.forall_mem_cons.mpr ⟨List.mem_cons_of_mem _ (List.mem_append_left _ (List.mem_append_right _ (List.mem_of_getElem? (i := 1) rfl))), List.forall_mem_cons.mpr ⟨List.mem_cons_of_mem _ (List.mem_append_left _ (List.mem_append_left _ (List.mem_of_getElem? (i := 3) rfl))), (fun _ h => absurd h List.not_mem_nil)⟩⟩⟩⟩, List.forall_mem_cons.mpr ⟨List.mem_cons_of_mem _ (List.mem_append_left _ (List.mem_append_right _ (List.mem_of_getElem? (i := 2) rfl))), List.forall_mem_append.mpr ⟨List.forall_mem_cons.mpr ⟨List.mem_cons_of_mem _ (List.mem_append_left _ (List.mem_append_right _ (List.mem_of_getElem? (i := 3) rfl))), List.forall_mem_cons.mpr ⟨List.mem_cons_of_mem _ (List.mem_append_left _ (List.mem_append_right _ (List.mem_of_getElem? (i := 4) rfl))), (fun _ h => absurd h List.not_mem_nil)⟩⟩, (fun _ h => List.mem_cons_of_mem _ (List.mem_append_right _ h))⟩⟩⟩) (by decide +kernel)
set_option maxHeartbeats 4000000 in
set_option maxRecDepth 100000 in
theorem s_X12_wayRefused (l : Launch) (D : va_G) (sz : Nat) (o : Nat) (a : Nat → Nat) (t : Nat → ClassId) (i : Nat → Int32) (q : Int64) (c : Nat → Nat → Int32) (d : Nat → Nat → Int64) (w1 : Int32) (w2 : Int32) (hI : mInv i c) : Met l yX12_wayRefused wm_X12_wayRefused ({ frames := 2, cells := 0, slots := 0, locals := 46 }) (va_Pc [.ref o, .int w1, .int w2] (pB D sz (mW o a t i q c d) (mT t))) (va_Qi (fun (r : Int32) (u : MS) => ((r.toInt = 0 ∧ 0 ≤ w1.toInt ∧ w1.toInt < (i 5).toInt ∧ 0 ≤ w2.toInt ∧ w2.toInt < (i 5).toInt) ∨ r.toInt < 0) ∧ mInv u.1 u.2.2.1 ∧ (∀ k, k ∉ ([0] : List Nat) → u.1 k = i k) ∧ (∀ k, k ∉ ([1] : List Nat) → u.2.2.1 k = c k)) (oC D (va_A (mW o a t i q c d) sz) (fun u : MS => mW o a t u.1 u.2.1 u.2.2.1 u.2.2.2) (fun _ => [])) (va_A (mW o a t i q c d) sz)) 0 0 (va_A (mW o a t i q c d) sz) := by
  refine Met.ofW (cc := cX12_wayRefused) (maxL := 3) (ret := (some .int)) (by decide +kernel) rfl ?_
  intro p e s m args below meth cd s₁ B hml hv
  obtain ⟨rfl, hsz, hP, hK, hD0⟩ := hv
  have hx := B.exec
  have hb := B.bytes
  have hr := B.returns
  have hts := atoms_spec (ws := wm_X12_wayRefused) B.pre
  have hown : s.vm.findClass RX12 = some m.cls := findClass_of_methodNamed B.named
  have hlocks := B.notSynchronized
  subst hsz
  have hD := hD0.self (sz := s.heap.size)
  generalize hAe : va_A (mW o a t i q c d) s.heap.size = A at hD ⊢
  have hA : ∀ q : Nat, s.heap.size ≤ q → A q := fun q h => by rw [← hAe]; exact Or.inr h
  have hS : va_S A s.heap s.heap [] := va_S.rf
  have hfi : ∀ k, k ∉ ([] : List Nat) → i k = i k := fun _ _ => rfl
  have hfc : ∀ k, k ∉ ([] : List Nat) → c k = c k := fun _ _ => rfl
  have hl := lv_entry ([.ref o, .int w1, .int w2]) (n := 3) (Nat.le_of_ble_eq_true rfl)
  rw [lg_entry_eq]
  generalize (lg_sl ([.ref o, .int w1, .int w2]) ++ List.replicate (3 - (lg_sl ([.ref o, .int w1, .int w2])).length) Slot.unset).toArray = ls at hl ⊢
  have hl : lv_has ls 3 [(0, .ref o), (1, .int w1), (2, .int w2)] := hl
  refine lv_aload_n hx hb dX12_wayRefused_0 rfl (lv_at hl 0 rfl) ?_
  refine lv_iload_n hx hb dX12_wayRefused_1 rfl (lv_at hl 1 rfl) ?_
  have rb5_i : 0 ≤ (i 5).toInt ∧ (i 5).toInt ≤ 30 := hI.1 5
  refine ro_calli (va_runV (As := [.int w1]) (rest := []) ⟨hx, hb, hml, hown, hts⟩ (s_X12_isObject l D s.heap.size o a t i q c d w1 hI ) (cwV 1 hts gm_X12_wayRefused_X12_isObject rfl rfl rfl (by decide +kernel) ⟨Nat.le_of_ble_eq_true rfl, Nat.le_of_ble_eq_true rfl⟩) (pA_V hK hP (ci := 12) (q0 := 0) rfl rfl) rfl rfl hl.1 rfl (lv_room (Nat.le_of_ble_eq_true rfl)) dX12_wayRefused_2 ⟨Nat.le_of_ble_eq_true rfl, Nat.le_of_ble_eq_true rfl⟩) hS hA hP (fun r1 u1 H locs hw1 hP hS => ?_)
  have hw1 : r1 = if (0 ≤ w1.toInt ∧ w1.toInt ≤ (i 5).toInt - 1) then 1 else 0 := hw1
  refine lv_if_eq (tgt := 16) hx hb dX12_wayRefused_5 (by decide +kernel) (fun c2 => ?_) (fun c2 => ?_)
  · have f2 := fl_f hw1 c2
    refine lv_iconst (v := (-1)) hx hb dX12_wayRefused_16 (by decide +kernel) ?_
    refine lv_goto (tgt := 47) hx hb dX12_wayRefused_17 (by decide +kernel) ?_
    exact rw_iret (i, q, c, d) hx hb hr hlocks hS (hK.sub (tys' := []) [] rfl) hP hD dX12_wayRefused_47 ⟨(show (((-1) : Int32).toInt = 0 ∧ 0 ≤ w1.toInt ∧ w1.toInt < (i 5).toInt ∧ 0 ≤ w2.toInt ∧ w2.toInt < (i 5).toInt) ∨ ((-1) : Int32).toInt < 0 from by have h9 : ((-1) : Int32).toInt = -1 := (by decide +kernel); omega), hI, fr_w hfi (by decide +kernel), fr_w hfc (by decide +kernel)⟩
  · have f2 := fl_t hw1 c2
    refine lv_aload_n hx hb dX12_wayRefused_8 rfl (lv_at hl 0 rfl) ?_
    refine lv_iload_n hx hb dX12_wayRefused_9 rfl (lv_at hl 2 rfl) ?_
    refine ro_calli (va_runV (As := [.int w2]) (rest := []) ⟨hx, hb, hml, hown, hts⟩ (s_X12_isObject l D H.size o a t i q c d w2 hI ) (cwV 1 hts gm_X12_wayRefused_X12_isObject rfl rfl rfl (by decide +kernel) ⟨Nat.le_of_ble_eq_true rfl, Nat.le_of_ble_eq_true rfl⟩) (pA_V hK hP (ci := 12) (q0 := 0) rfl rfl) rfl rfl hl.1 rfl (lv_room (Nat.le_of_ble_eq_true rfl)) dX12_wayRefused_10 ⟨Nat.le_of_ble_eq_true rfl, Nat.le_of_ble_eq_true rfl⟩) hS hA hP (fun r3 u3 H locs hw3 hP hS => ?_)
    have hw3 : r3 = if (0 ≤ w2.toInt ∧ w2.toInt ≤ (i 5).toInt - 1) then 1 else 0 := hw3
    refine lv_if_ne (tgt := 20) hx hb dX12_wayRefused_13 (by decide +kernel) (fun c4 => ?_) (fun c4 => ?_)
    · have f4 := fl_t hw3 c4
      refine lv_aload_n hx hb dX12_wayRefused_20 rfl (lv_at hl 0 rfl) ?_
      refine lv_iload_n hx hb dX12_wayRefused_21 rfl (lv_at hl 1 rfl) ?_
      refine lv_iconst (v := 0) hx hb dX12_wayRefused_22 (by decide +kernel) ?_
      refine ro_calli (va_runV (As := [.int w1, .int 0]) (rest := []) ⟨hx, hb, hml, hown, hts⟩ (s_X12_isOf l D H.size o a t i q c d w1 0 hI (show 0 ≤ w1.toInt ∧ w1.toInt ≤ 29 from by have h91 : (0 : Int32).toInt = 0 := (by decide +kernel); omega) (show 0 ≤ 0 from by decide +kernel)) (cwV 2 hts gm_X12_wayRefused_X12_isOf rfl rfl rfl (by decide +kernel) ⟨Nat.le_of_ble_eq_true rfl, Nat.le_of_ble_eq_true rfl⟩) (pA_V hK hP (ci := 12) (q0 := 0) rfl rfl) rfl rfl hl.1 rfl (lv_room (Nat.le_of_ble_eq_true rfl)) dX12_wayRefused_23 ⟨Nat.le_of_ble_eq_true rfl, Nat.le_of_ble_eq_true rfl⟩) hS hA hP (fun r5 u5 H locs hw5 hP hS => ?_)
      have hw5 : ((0 ≤ r5.toInt ∧ r5.toInt ≤ 1) ∧ (Sm r5 (Kd (c 3) (c 6) w1.toInt 0))) := hw5
      obtain ⟨hw5, hr5_0⟩ := hw5
      have hr5_0 : Sm r5 (Kd (c 3) (c 6) w1.toInt 0) := hr5_0
      refine lv_if_eq (tgt := 38) hx hb dX12_wayRefused_26 (by decide +kernel) (fun c6 => ?_) (fun c6 => ?_)
      · have f6 := (ti_eq (a := r5.toInt) (b := 0) rfl (by decide +kernel)).mp c6
        have s6 := sm_f hr5_0 c6
        refine lv_aload_n hx hb dX12_wayRefused_38 rfl (lv_at hl 0 rfl) ?_
        refine lv_iconst (v := 3) hx hb dX12_wayRefused_39 (by decide +kernel) ?_
        refine al_calli (va_runV (As := [.int 3]) (rest := []) ⟨hx, hb, hml, hown, hts⟩ (s_X12_meets l D H.size o a t i q c d 3 hI (show 1 ≤ 3 ∧ 3 ≤ 6 from by decide +kernel)) (cwV 1 hts gm_X12_wayRefused_X12_meets rfl rfl rfl (by decide +kernel) ⟨Nat.le_of_ble_eq_true rfl, Nat.le_of_ble_eq_true rfl⟩) (pB_V hK hP hD (ci := 12) (q0 := 0) rfl rfl) rfl rfl hl.1 rfl (lv_room (Nat.le_of_ble_eq_true rfl)) dX12_wayRefused_40 ⟨Nat.le_of_ble_eq_true rfl, Nat.le_of_ble_eq_true rfl⟩) hS hA hP hD (fun r7 u7 H locs hw7 hP hD hS => ?_)
        obtain ⟨i7, q7, c7, d7⟩ := u7
        have hw7 : r7 = (-3) ∧ mInv i7 c7 ∧ (∀ k, k ∉ ([0] : List Nat) → i7 k = i k) ∧ (∀ k, k ∉ ([1] : List Nat) → c7 k = c k) := hw7
        obtain ⟨hw7, hI, hei7, hec7⟩ := hw7
        have hfi : ∀ k, k ∉ ([0] : List Nat) → i7 k = i k := fr_z hfi hei7 (by decide +kernel) (by decide +kernel)
        have hfc : ∀ k, k ∉ ([1] : List Nat) → c7 k = c k := fr_z hfc hec7 (by decide +kernel) (by decide +kernel)
        have hP : va_P D vwCl (mW o a t i7 q7 c7 d7) H := hP
        have hD : va_D A (mW o a t i7 q7 c7 d7) := hD
        have hw7 : r7 = (-3) := hw7
        subst hw7
        refine lv_goto (tgt := 47) hx hb dX12_wayRefused_43 (by decide +kernel) ?_
        exact rw_iret (i7, q7, c7, d7) hx hb hr hlocks hS (hK.sub (tys' := []) [] rfl) hP hD dX12_wayRefused_47 ⟨(show (((-3) : Int32).toInt = 0 ∧ 0 ≤ w1.toInt ∧ w1.toInt < (i 5).toInt ∧ 0 ≤ w2.toInt ∧ w2.toInt < (i 5).toInt) ∨ ((-3) : Int32).toInt < 0 from by have h9 : ((-3) : Int32).toInt = -3 := (by decide +kernel); omega), hI, fr_w hfi (by decide +kernel), fr_w hfc (by decide +kernel)⟩
      · have f6 := mt (ti_eq (a := r5.toInt) (b := 0) rfl (by decide +kernel)).mpr c6
        have s6 := sm_t hr5_0 c6
        refine lv_aload_n hx hb dX12_wayRefused_29 rfl (lv_at hl 0 rfl) ?_
        refine lv_iload_n hx hb dX12_wayRefused_30 rfl (lv_at hl 2 rfl) ?_
        refine lv_iconst (v := 0) hx hb dX12_wayRefused_31 (by decide +kernel) ?_
        refine ro_calli (va_runV (As := [.int w2, .int 0]) (rest := []) ⟨hx, hb, hml, hown, hts⟩ (s_X12_isOf l D H.size o a t i q c d w2 0 hI (show 0 ≤ w2.toInt ∧ w2.toInt ≤ 29 from by have h91 : (0 : Int32).toInt = 0 := (by decide +kernel); omega) (show 0 ≤ 0 from by decide +kernel)) (cwV 2 hts gm_X12_wayRefused_X12_isOf rfl rfl rfl (by decide +kernel) ⟨Nat.le_of_ble_eq_true rfl, Nat.le_of_ble_eq_true rfl⟩) (pA_V hK hP (ci := 12) (q0 := 0) rfl rfl) rfl rfl hl.1 rfl (lv_room (Nat.le_of_ble_eq_true rfl)) dX12_wayRefused_32 ⟨Nat.le_of_ble_eq_true rfl, Nat.le_of_ble_eq_true rfl⟩) hS hA hP (fun r8 u8 H locs hw8 hP hS => ?_)
        have hw8 : ((0 ≤ r8.toInt ∧ r8.toInt ≤ 1) ∧ (Sm r8 (Kd (c 3) (c 6) w2.toInt 0))) := hw8
        obtain ⟨hw8, hr8_0⟩ := hw8
        have hr8_0 : Sm r8 (Kd (c 3) (c 6) w2.toInt 0) := hr8_0
        refine lv_if_ne (tgt := 46) hx hb dX12_wayRefused_35 (by decide +kernel) (fun c9 => ?_) (fun c9 => ?_)
        · have f9 := mt (ti_eq (a := r8.toInt) (b := 0) rfl (by decide +kernel)).mpr c9
          have s9 := sm_t hr8_0 c9
          refine lv_iconst (v := 0) hx hb dX12_wayRefused_46 (by decide +kernel) ?_
          exact rw_iret (i, q, c, d) hx hb hr hlocks hS (hK.sub (tys' := []) [] rfl) hP hD dX12_wayRefused_47 ⟨(show ((0 : Int32).toInt = 0 ∧ 0 ≤ w1.toInt ∧ w1.toInt < (i 5).toInt ∧ 0 ≤ w2.toInt ∧ w2.toInt < (i 5).toInt) ∨ (0 : Int32).toInt < 0 from by have h9 : (0 : Int32).toInt = 0 := (by decide +kernel); omega), hI, fr_w hfi (by decide +kernel), fr_w hfc (by decide +kernel)⟩
        · have f9 := (ti_eq (a := r8.toInt) (b := 0) rfl (by decide +kernel)).mp c9
          have s9 := sm_f hr8_0 c9
          refine lv_aload_n hx hb dX12_wayRefused_38 rfl (lv_at hl 0 rfl) ?_
          refine lv_iconst (v := 3) hx hb dX12_wayRefused_39 (by decide +kernel) ?_
          refine al_calli (va_runV (As := [.int 3]) (rest := []) ⟨hx, hb, hml, hown, hts⟩ (s_X12_meets l D H.size o a t i q c d 3 hI (show 1 ≤ 3 ∧ 3 ≤ 6 from by decide +kernel)) (cwV 1 hts gm_X12_wayRefused_X12_meets rfl rfl rfl (by decide +kernel) ⟨Nat.le_of_ble_eq_true rfl, Nat.le_of_ble_eq_true rfl⟩) (pB_V hK hP hD (ci := 12) (q0 := 0) rfl rfl) rfl rfl hl.1 rfl (lv_room (Nat.le_of_ble_eq_true rfl)) dX12_wayRefused_40 ⟨Nat.le_of_ble_eq_true rfl, Nat.le_of_ble_eq_true rfl⟩) hS hA hP hD (fun r10 u10 H locs hw10 hP hD hS => ?_)
          obtain ⟨i10, q10, c10, d10⟩ := u10
          have hw10 : r10 = (-3) ∧ mInv i10 c10 ∧ (∀ k, k ∉ ([0] : List Nat) → i10 k = i k) ∧ (∀ k, k ∉ ([1] : List Nat) → c10 k = c k) := hw10
          obtain ⟨hw10, hI, hei10, hec10⟩ := hw10
          have hfi : ∀ k, k ∉ ([0] : List Nat) → i10 k = i k := fr_z hfi hei10 (by decide +kernel) (by decide +kernel)
          have hfc : ∀ k, k ∉ ([1] : List Nat) → c10 k = c k := fr_z hfc hec10 (by decide +kernel) (by decide +kernel)
          have hP : va_P D vwCl (mW o a t i10 q10 c10 d10) H := hP
          have hD : va_D A (mW o a t i10 q10 c10 d10) := hD
          have hw10 : r10 = (-3) := hw10
          subst hw10
          refine lv_goto (tgt := 47) hx hb dX12_wayRefused_43 (by decide +kernel) ?_
          exact rw_iret (i10, q10, c10, d10) hx hb hr hlocks hS (hK.sub (tys' := []) [] rfl) hP hD dX12_wayRefused_47 ⟨(show (((-3) : Int32).toInt = 0 ∧ 0 ≤ w1.toInt ∧ w1.toInt < (i 5).toInt ∧ 0 ≤ w2.toInt ∧ w2.toInt < (i 5).toInt) ∨ ((-3) : Int32).toInt < 0 from by have h9 : ((-3) : Int32).toInt = -3 := (by decide +kernel); omega), hI, fr_w hfi (by decide +kernel), fr_w hfc (by decide +kernel)⟩
    · have f4 := fl_f hw3 c4
      refine lv_iconst (v := (-1)) hx hb dX12_wayRefused_16 (by decide +kernel) ?_
      refine lv_goto (tgt := 47) hx hb dX12_wayRefused_17 (by decide +kernel) ?_
      exact rw_iret (i, q, c, d) hx hb hr hlocks hS (hK.sub (tys' := []) [] rfl) hP hD dX12_wayRefused_47 ⟨(show (((-1) : Int32).toInt = 0 ∧ 0 ≤ w1.toInt ∧ w1.toInt < (i 5).toInt ∧ 0 ≤ w2.toInt ∧ w2.toInt < (i 5).toInt) ∨ ((-1) : Int32).toInt < 0 from by have h9 : ((-1) : Int32).toInt = -1 := (by decide +kernel); omega), hI, fr_w hfi (by decide +kernel), fr_w hfc (by decide +kernel)⟩

def wm_X12_asked : List Cond := .code yX12_asked cX12_asked 1 (some .long) :: (([.fieldLink RX12 318 "TalePlayModel" "asked" "J"] : List Cond) ++ wsX120)
set_option maxHeartbeats 4000000 in
set_option maxRecDepth 100000 in
theorem s_X12_asked (l : Launch) (D : va_G) (sz : Nat) (o : Nat) (a : Nat → Nat) (t : Nat → ClassId) (i : Nat → Int32) (q : Int64) (c : Nat → Nat → Int32) (d : Nat → Nat → Int64) (hI : mInv i c) : Met l yX12_asked wm_X12_asked ({ frames := 0, cells := 0, slots := 0, locals := 0 }) (va_Pc [.ref o] (pA D sz (mW o a t i q c d) (mT t))) (va_Ql (fun (r : Int64) (_ : Unit) => True) oA (ro sz)) 0 0 (ro sz) := by
  refine Met.ofW (cc := cX12_asked) (maxL := 1) (ret := (some .long)) (by decide +kernel) rfl ?_
  intro p e s m args below meth cd s₁ B hml hv
  obtain ⟨rfl, hsz, hP, hK⟩ := hv
  have hx := B.exec
  have hb := B.bytes
  have hr := B.returns
  have hts := atoms_spec (ws := wm_X12_asked) B.pre
  have hown : s.vm.findClass RX12 = some m.cls := findClass_of_methodNamed B.named
  have hlocks := B.notSynchronized
  subst hsz
  have hA : ∀ q : Nat, s.heap.size ≤ q → ro s.heap.size q := fun _ h => h
  have hS : va_S (ro s.heap.size) s.heap s.heap [] := va_S.rf
  have hl := lv_entry ([.ref o]) (n := 1) (Nat.le_of_ble_eq_true rfl)
  rw [lg_entry_eq]
  generalize (lg_sl ([.ref o]) ++ List.replicate (1 - (lg_sl ([.ref o])).length) Slot.unset).toArray = ls at hl ⊢
  have hl : lv_has ls 1 [(0, .ref o)] := hl
  refine lv_aload_n hx hb dX12_asked_0 rfl (lv_at hl 0 rfl) ?_
  refine mget_37 (v := q) rfl hx hb hts (fun _ h => List.mem_cons_of_mem _ (List.mem_append_right _ h)) hown hK hP (hts (.fieldLink RX12 318 "TalePlayModel" "asked" "J") (List.mem_cons_of_mem _ (List.mem_append_left _ (List.mem_of_getElem? (i := 0) rfl)))) dX12_asked_1 ?_
  exact ro_lret hx hb hr hlocks hS dX12_asked_4 trivial

def wm_X12_trace : List Cond := .code yX12_trace cX12_trace 2 (some .int) :: (([.fieldLink RX12 297 "TalePlayModel" "traced" "I", .methodLink RX12 166 yX12_in, .static yX12_in, .initialized RX12, .code yX12_in cX12_in 6 (some .boolean), .fieldLink RX12 77 "TalePlayModel" "trace" "[I"] : List Cond) ++ wsX120)
set_option maxRecDepth 20000 in
theorem gm_X12_trace_X12_in : GoodIn wm_X12_trace (va_wsS RX12 166 yX12_in wm_X12_in) := goodIn_w (List.forall_mem_append.mpr ⟨List.forall_mem_cons.mpr ⟨List.mem_cons_of_mem _ (List.mem_append_left _ (List.mem_of_getElem? (i := 1) rfl)), List.forall_mem_cons.mpr ⟨List.mem_cons_of_mem _ (List.mem_append_left _ (List.mem_of_getElem? (i := 2) rfl)), List.forall_mem_cons.mpr ⟨List.mem_cons_of_mem _ (List.mem_append_left _ (List.mem_of_getElem? (i := 3) rfl)), (fun _ h => absurd h List.not_mem_nil)⟩⟩⟩, List.forall_mem_cons.mpr ⟨List.mem_cons_of_mem _ (List.mem_append_left _ (List.mem_of_getElem? (i := 4) rfl)), (fun _ h => absurd h List.not_mem_nil)⟩⟩) (by decide +kernel)
set_option maxHeartbeats 4000000 in
set_option maxRecDepth 100000 in
theorem s_X12_trace (l : Launch) (D : va_G) (sz : Nat) (o : Nat) (a : Nat → Nat) (t : Nat → ClassId) (i : Nat → Int32) (q : Int64) (c : Nat → Nat → Int32) (d : Nat → Nat → Int64) (w : Int32) (hI : mInv i c) : Met l yX12_trace wm_X12_trace ({ frames := 1, cells := 0, slots := 0, locals := 25 }) (va_Pc [.ref o, .int w] (pA D sz (mW o a t i q c d) (mT t))) (va_Qi (fun (r : Int32) (_ : Unit) => True) oA (ro sz)) 0 0 (ro sz) := by
  refine Met.ofW (cc := cX12_trace) (maxL := 2) (ret := (some .int)) (by decide +kernel) rfl ?_
  intro p e s m args below meth cd s₁ B hml hv
  obtain ⟨rfl, hsz, hP, hK⟩ := hv
  have hx := B.exec
  have hb := B.bytes
  have hr := B.returns
  have hts := atoms_spec (ws := wm_X12_trace) B.pre
  have hown : s.vm.findClass RX12 = some m.cls := findClass_of_methodNamed B.named
  have hlocks := B.notSynchronized
  subst hsz
  have hA : ∀ q : Nat, s.heap.size ≤ q → ro s.heap.size q := fun _ h => h
  have hS : va_S (ro s.heap.size) s.heap s.heap [] := va_S.rf
  have hl := lv_entry ([.ref o, .int w]) (n := 2) (Nat.le_of_ble_eq_true rfl)
  rw [lg_entry_eq]
  generalize (lg_sl ([.ref o, .int w]) ++ List.replicate (2 - (lg_sl ([.ref o, .int w])).length) Slot.unset).toArray = ls at hl ⊢
  have hl : lv_has ls 2 [(0, .ref o), (1, .int w)] := hl
  refine lv_iload_n hx hb dX12_trace_0 rfl (lv_at hl 1 rfl) ?_
  refine lv_i2l (v := w.toInt64) hx hb dX12_trace_1 rfl ?_
  refine lv_lconst (v := 0) hx hb dX12_trace_2 (by decide +kernel) ?_
  refine lv_aload_n hx hb dX12_trace_3 rfl (lv_at hl 0 rfl) ?_
  refine mget_35 (v := (i 35)) rfl hx hb hts (fun _ h => List.mem_cons_of_mem _ (List.mem_append_right _ h)) hown hK hP (hts (.fieldLink RX12 297 "TalePlayModel" "traced" "I") (List.mem_cons_of_mem _ (List.mem_append_left _ (List.mem_of_getElem? (i := 0) rfl)))) dX12_trace_4 ?_
  have rb35_i : 0 ≤ (i 35).toInt ∧ (i 35).toInt ≤ 100 := hI.1 35
  refine lv_iconst (v := 1) hx hb dX12_trace_7 (by decide +kernel) ?_
  refine lv_isub hx hb dX12_trace_8 ?_
  refine lv_topi (fun x1 ex1 => ?_)
  have tx1 := ti_sub (a := (i 35).toInt) (b := 1) ex1 rfl (by decide +kernel) (by omega) (by omega)
  refine lv_i2l (v := x1.toInt64) hx hb dX12_trace_9 rfl ?_
  have hPc := hP.sub (ws' := []) [] rfl
  have hKc := hK.sub (tys' := []) [] rfl
  refine ro_calli (va_runS (As := [.long w.toInt64, .long 0, .long x1.toInt64]) (rest := []) ⟨hx, hb, hml, hown, hts⟩ (c_X12_in l D s.heap.size w.toInt64 0 x1.toInt64 w.toInt 0 ((i 35).toInt - 1) ((Int32.toInt_toInt64 w).trans rfl) (by decide +kernel) ((Int32.toInt_toInt64 x1).trans tx1)) (va_cwS 3 hts gm_X12_trace_X12_in rfl rfl rfl (by decide +kernel) ⟨Nat.le_of_ble_eq_true rfl, Nat.le_of_ble_eq_true rfl⟩) (pA_S hKc hPc) rfl rfl hl.1 rfl (lv_room (Nat.le_of_ble_eq_true rfl)) dX12_trace_10 ⟨Nat.le_of_ble_eq_true rfl, Nat.le_of_ble_eq_true rfl⟩) hS hA hP (fun r2 u2 H locs hw2 hP hS => ?_)
  have hw2 : r2 = if (0 ≤ w.toInt ∧ w.toInt ≤ ((i 35).toInt - 1)) then 1 else 0 := hw2
  refine lv_if_eq (tgt := 25) hx hb dX12_trace_13 (by decide +kernel) (fun c3 => ?_) (fun c3 => ?_)
  · have f3 := fl_f hw2 c3
    refine lv_bipush (v := (-9)) hx hb dX12_trace_25 (by decide +kernel) ?_
    exact ro_iret hx hb hr hlocks hS dX12_trace_27 trivial
  · have f3 := fl_t hw2 c3
    refine lv_aload_n hx hb dX12_trace_16 rfl (lv_at hl 0 rfl) ?_
    refine mget_34 hx hb hts (fun _ h => List.mem_cons_of_mem _ (List.mem_append_right _ h)) hown hK hP (hts (.fieldLink RX12 77 "TalePlayModel" "trace" "[I") (List.mem_cons_of_mem _ (List.mem_append_left _ (List.mem_of_getElem? (i := 5) rfl)))) dX12_trace_17 ?_
    refine lv_iload_n hx hb dX12_trace_20 rfl (lv_at hl 1 rfl) ?_
    refine mld_34 hx hb hK hP (vp_in_iff.mpr (by have h9 : w.toInt = w.toInt := rfl; omega)) dX12_trace_21 (fun x4 ex4 => ?_)
    have rx4 : 0 ≤ x4.toInt ∧ x4.toInt ≤ 5 := by rw [ex4]; exact hI.2 34 _
    refine lv_goto (tgt := 27) hx hb dX12_trace_22 (by decide +kernel) ?_
    exact ro_iret hx hb hr hlocks hS dX12_trace_27 trivial

def wm_X12_turn : List Cond := .code yX12_turn cX12_turn 3 (some .int) :: (([.constantLong RX12 254 (2), .methodLink RX12 166 yX12_in, .static yX12_in, .initialized RX12, .code yX12_in cX12_in 6 (some .boolean), .fieldLink RX12 155 "TalePlayModel" "player" "I", .fieldLink RX12 291 "TalePlayModel" "turns" "I", .fieldLink RX12 62 "TalePlayModel" "turnRow" "[I"] : List Cond) ++ wsX120)
set_option maxRecDepth 20000 in
theorem gm_X12_turn_X12_in : GoodIn wm_X12_turn (va_wsS RX12 166 yX12_in wm_X12_in) := goodIn_w (List.forall_mem_append.mpr ⟨List.forall_mem_cons.mpr ⟨List.mem_cons_of_mem _ (List.mem_append_left _ (List.mem_of_getElem? (i := 1) rfl)), List.forall_mem_cons.mpr ⟨List.mem_cons_of_mem _ (List.mem_append_left _ (List.mem_of_getElem? (i := 2) rfl)), List.forall_mem_cons.mpr ⟨List.mem_cons_of_mem _ (List.mem_append_left _ (List.mem_of_getElem? (i := 3) rfl)), (fun _ h => absurd h List.not_mem_nil)⟩⟩⟩, List.forall_mem_cons.mpr ⟨List.mem_cons_of_mem _ (List.mem_append_left _ (List.mem_of_getElem? (i := 4) rfl)), (fun _ h => absurd h List.not_mem_nil)⟩⟩) (by decide +kernel)
set_option maxHeartbeats 4000000 in
set_option maxRecDepth 100000 in
theorem s_X12_turn (l : Launch) (D : va_G) (sz : Nat) (o : Nat) (a : Nat → Nat) (t : Nat → ClassId) (i : Nat → Int32) (q : Int64) (c : Nat → Nat → Int32) (d : Nat → Nat → Int64) (w : Int32) (w1 : Int32) (hI : mInv i c) : Met l yX12_turn wm_X12_turn ({ frames := 1, cells := 0, slots := 0, locals := 25 }) (va_Pc [.ref o, .int w, .int w1] (pA D sz (mW o a t i q c d) (mT t))) (va_Qi (fun (r : Int32) (_ : Unit) => True) oA (ro sz)) 0 0 (ro sz) := by
  refine Met.ofW (cc := cX12_turn) (maxL := 3) (ret := (some .int)) (by decide +kernel) rfl ?_
  intro p e s m args below meth cd s₁ B hml hv
  obtain ⟨rfl, hsz, hP, hK⟩ := hv
  have hx := B.exec
  have hb := B.bytes
  have hr := B.returns
  have hts := atoms_spec (ws := wm_X12_turn) B.pre
  have hown : s.vm.findClass RX12 = some m.cls := findClass_of_methodNamed B.named
  have hlocks := B.notSynchronized
  subst hsz
  have hA : ∀ q : Nat, s.heap.size ≤ q → ro s.heap.size q := fun _ h => h
  have hS : va_S (ro s.heap.size) s.heap s.heap [] := va_S.rf
  have hl := lv_entry ([.ref o, .int w, .int w1]) (n := 3) (Nat.le_of_ble_eq_true rfl)
  rw [lg_entry_eq]
  generalize (lg_sl ([.ref o, .int w, .int w1]) ++ List.replicate (3 - (lg_sl ([.ref o, .int w, .int w1])).length) Slot.unset).toArray = ls at hl ⊢
  have hl : lv_has ls 3 [(0, .ref o), (1, .int w), (2, .int w1)] := hl
  refine lv_iload_n hx hb dX12_turn_0 rfl (lv_at hl 1 rfl) ?_
  refine lv_if_lt (tgt := 16) hx hb dX12_turn_1 (by decide +kernel) (fun c1 => ?_) (fun c1 => ?_)
  · have f1 := (ti_lt (a := w.toInt) (b := 0) rfl (by decide +kernel)).mp c1
    refine lv_iconst (v := (-1)) hx hb dX12_turn_16 (by decide +kernel) ?_
    exact ro_iret hx hb hr hlocks hS dX12_turn_17 trivial
  · have f1 := mt (ti_lt (a := w.toInt) (b := 0) rfl (by decide +kernel)).mpr c1
    refine lv_iload_n hx hb dX12_turn_4 rfl (lv_at hl 2 rfl) ?_
    refine lv_i2l (v := w1.toInt64) hx hb dX12_turn_5 rfl ?_
    refine lv_lconst (v := 0) hx hb dX12_turn_6 (by decide +kernel) ?_
    refine lv_ldc2 (v := 2) hx hb hown (hts (.constantLong RX12 254 (2)) (List.mem_cons_of_mem _ (List.mem_append_left _ (List.mem_of_getElem? (i := 0) rfl)))) dX12_turn_7 ?_
    have hPc := hP.sub (ws' := []) [] rfl
    have hKc := hK.sub (tys' := []) [] rfl
    refine ro_calli (va_runS (As := [.long w1.toInt64, .long 0, .long 2]) (rest := []) ⟨hx, hb, hml, hown, hts⟩ (c_X12_in l D s.heap.size w1.toInt64 0 2 w1.toInt 0 2 ((Int32.toInt_toInt64 w1).trans rfl) (by decide +kernel) (by decide +kernel)) (va_cwS 3 hts gm_X12_turn_X12_in rfl rfl rfl (by decide +kernel) ⟨Nat.le_of_ble_eq_true rfl, Nat.le_of_ble_eq_true rfl⟩) (pA_S hKc hPc) rfl rfl hl.1 rfl (lv_room (Nat.le_of_ble_eq_true rfl)) dX12_turn_10 ⟨Nat.le_of_ble_eq_true rfl, Nat.le_of_ble_eq_true rfl⟩) hS hA hP (fun r2 u2 H locs hw2 hP hS => ?_)
    have hw2 : r2 = if (0 ≤ w1.toInt ∧ w1.toInt ≤ 2) then 1 else 0 := hw2
    refine lv_if_ne (tgt := 18) hx hb dX12_turn_13 (by decide +kernel) (fun c3 => ?_) (fun c3 => ?_)
    · have f3 := fl_t hw2 c3
      refine lv_aload_n hx hb dX12_turn_18 rfl (lv_at hl 0 rfl) ?_
      refine mget_22 (v := (i 22)) rfl hx hb hts (fun _ h => List.mem_cons_of_mem _ (List.mem_append_right _ h)) hown hK hP (hts (.fieldLink RX12 155 "TalePlayModel" "player" "I") (List.mem_cons_of_mem _ (List.mem_append_left _ (List.mem_of_getElem? (i := 5) rfl)))) dX12_turn_19 ?_
      have rb22_i : (i 22).toInt = -9 ∨ (0 ≤ (i 22).toInt ∧ (i 22).toInt ≤ 29) := hI.1 22
      refine lv_bipush (v := (-9)) hx hb dX12_turn_22 (by decide +kernel) ?_
      refine lv_icmp_ne (tgt := 30) hx hb dX12_turn_24 (by decide +kernel) (fun c4 => ?_) (fun c4 => ?_)
      · have f4 := mt (ti_eq (a := (i 22).toInt) (b := (-9)) rfl (by decide +kernel)).mpr c4
        refine lv_iload_n hx hb dX12_turn_30 rfl (lv_at hl 1 rfl) ?_
        refine lv_aload_n hx hb dX12_turn_31 rfl (lv_at hl 0 rfl) ?_
        refine mget_27 (v := (i 27)) rfl hx hb hts (fun _ h => List.mem_cons_of_mem _ (List.mem_append_right _ h)) hown hK hP (hts (.fieldLink RX12 291 "TalePlayModel" "turns" "I") (List.mem_cons_of_mem _ (List.mem_append_left _ (List.mem_of_getElem? (i := 6) rfl)))) dX12_turn_32 ?_
        have rb27_i : 0 ≤ (i 27).toInt ∧ (i 27).toInt ≤ 100 := hI.1 27
        refine lv_icmp_ge (tgt := 51) hx hb dX12_turn_35 (by decide +kernel) (fun c5 => ?_) (fun c5 => ?_)
        · have f5 := (ti_le (a := (i 27).toInt) (b := w.toInt) rfl rfl).mp c5
          refine lv_iconst (v := (-1)) hx hb dX12_turn_51 (by decide +kernel) ?_
          exact ro_iret hx hb hr hlocks hS dX12_turn_52 trivial
        · have f5 := mt (ti_le (a := (i 27).toInt) (b := w.toInt) rfl rfl).mpr c5
          refine lv_aload_n hx hb dX12_turn_38 rfl (lv_at hl 0 rfl) ?_
          refine mget_28 hx hb hts (fun _ h => List.mem_cons_of_mem _ (List.mem_append_right _ h)) hown hK hP (hts (.fieldLink RX12 62 "TalePlayModel" "turnRow" "[I") (List.mem_cons_of_mem _ (List.mem_append_left _ (List.mem_of_getElem? (i := 7) rfl)))) dX12_turn_39 ?_
          refine lv_iconst (v := 3) hx hb dX12_turn_42 (by decide +kernel) ?_
          refine lv_iload_n hx hb dX12_turn_43 rfl (lv_at hl 1 rfl) ?_
          refine lv_imul hx hb dX12_turn_44 ?_
          refine lv_topi (fun x6 ex6 => ?_)
          have tx6 := ti_mul (a := 3) (b := w.toInt) ex6 (by decide +kernel) rfl (by omega) (by omega)
          refine lv_iload_n hx hb dX12_turn_45 rfl (lv_at hl 2 rfl) ?_
          refine lv_iadd hx hb dX12_turn_46 ?_
          refine lv_topi (fun x7 ex7 => ?_)
          have tx7 := ti_add (a := (3 * w.toInt)) (b := w1.toInt) ex7 tx6 rfl (by omega) (by omega)
          refine mld_28 hx hb hK hP (vp_in_iff.mpr (by have h9 : x7.toInt = ((3 * w.toInt) + w1.toInt) := tx7; omega)) dX12_turn_47 (fun x8 ex8 => ?_)
          have rx8 : 0 ≤ x8.toInt ∧ x8.toInt ≤ 29 := by rw [ex8]; exact hI.2 28 _
          refine lv_goto (tgt := 52) hx hb dX12_turn_48 (by decide +kernel) ?_
          exact ro_iret hx hb hr hlocks hS dX12_turn_52 trivial
      · have f4 := (ti_eq (a := (i 22).toInt) (b := (-9)) rfl (by decide +kernel)).mp c4
        refine lv_bipush (v := (-5)) hx hb dX12_turn_27 (by decide +kernel) ?_
        exact ro_iret hx hb hr hlocks hS dX12_turn_29 trivial
    · have f3 := fl_f hw2 c3
      refine lv_iconst (v := (-1)) hx hb dX12_turn_16 (by decide +kernel) ?_
      exact ro_iret hx hb hr hlocks hS dX12_turn_17 trivial

def wm_X12_sought : List Cond := .code yX12_sought cX12_sought 3 (some .int) :: (([.constantLong RX12 254 (2), .methodLink RX12 166 yX12_in, .static yX12_in, .initialized RX12, .code yX12_in cX12_in 6 (some .boolean), .fieldLink RX12 158 "TalePlayModel" "soughtMany" "I", .fieldLink RX12 123 "TalePlayModel" "soughtRow" "[I"] : List Cond) ++ wsX120)
set_option maxRecDepth 20000 in
theorem gm_X12_sought_X12_in : GoodIn wm_X12_sought (va_wsS RX12 166 yX12_in wm_X12_in) := goodIn_w (List.forall_mem_append.mpr ⟨List.forall_mem_cons.mpr ⟨List.mem_cons_of_mem _ (List.mem_append_left _ (List.mem_of_getElem? (i := 1) rfl)), List.forall_mem_cons.mpr ⟨List.mem_cons_of_mem _ (List.mem_append_left _ (List.mem_of_getElem? (i := 2) rfl)), List.forall_mem_cons.mpr ⟨List.mem_cons_of_mem _ (List.mem_append_left _ (List.mem_of_getElem? (i := 3) rfl)), (fun _ h => absurd h List.not_mem_nil)⟩⟩⟩, List.forall_mem_cons.mpr ⟨List.mem_cons_of_mem _ (List.mem_append_left _ (List.mem_of_getElem? (i := 4) rfl)), (fun _ h => absurd h List.not_mem_nil)⟩⟩) (by decide +kernel)
set_option maxHeartbeats 4000000 in
set_option maxRecDepth 100000 in
theorem s_X12_sought (l : Launch) (D : va_G) (sz : Nat) (o : Nat) (a : Nat → Nat) (t : Nat → ClassId) (i : Nat → Int32) (q : Int64) (c : Nat → Nat → Int32) (d : Nat → Nat → Int64) (w : Int32) (w1 : Int32) (hI : mInv i c) : Met l yX12_sought wm_X12_sought ({ frames := 1, cells := 0, slots := 0, locals := 25 }) (va_Pc [.ref o, .int w, .int w1] (pA D sz (mW o a t i q c d) (mT t))) (va_Qi (fun (r : Int32) (_ : Unit) => True) oA (ro sz)) 0 0 (ro sz) := by
  refine Met.ofW (cc := cX12_sought) (maxL := 3) (ret := (some .int)) (by decide +kernel) rfl ?_
  intro p e s m args below meth cd s₁ B hml hv
  obtain ⟨rfl, hsz, hP, hK⟩ := hv
  have hx := B.exec
  have hb := B.bytes
  have hr := B.returns
  have hts := atoms_spec (ws := wm_X12_sought) B.pre
  have hown : s.vm.findClass RX12 = some m.cls := findClass_of_methodNamed B.named
  have hlocks := B.notSynchronized
  subst hsz
  have hA : ∀ q : Nat, s.heap.size ≤ q → ro s.heap.size q := fun _ h => h
  have hS : va_S (ro s.heap.size) s.heap s.heap [] := va_S.rf
  have hl := lv_entry ([.ref o, .int w, .int w1]) (n := 3) (Nat.le_of_ble_eq_true rfl)
  rw [lg_entry_eq]
  generalize (lg_sl ([.ref o, .int w, .int w1]) ++ List.replicate (3 - (lg_sl ([.ref o, .int w, .int w1])).length) Slot.unset).toArray = ls at hl ⊢
  have hl : lv_has ls 3 [(0, .ref o), (1, .int w), (2, .int w1)] := hl
  refine lv_iload_n hx hb dX12_sought_0 rfl (lv_at hl 2 rfl) ?_
  refine lv_i2l (v := w1.toInt64) hx hb dX12_sought_1 rfl ?_
  refine lv_lconst (v := 0) hx hb dX12_sought_2 (by decide +kernel) ?_
  refine lv_ldc2 (v := 2) hx hb hown (hts (.constantLong RX12 254 (2)) (List.mem_cons_of_mem _ (List.mem_append_left _ (List.mem_of_getElem? (i := 0) rfl)))) dX12_sought_3 ?_
  have hPc := hP.sub (ws' := []) [] rfl
  have hKc := hK.sub (tys' := []) [] rfl
  refine ro_calli (va_runS (As := [.long w1.toInt64, .long 0, .long 2]) (rest := []) ⟨hx, hb, hml, hown, hts⟩ (c_X12_in l D s.heap.size w1.toInt64 0 2 w1.toInt 0 2 ((Int32.toInt_toInt64 w1).trans rfl) (by decide +kernel) (by decide +kernel)) (va_cwS 3 hts gm_X12_sought_X12_in rfl rfl rfl (by decide +kernel) ⟨Nat.le_of_ble_eq_true rfl, Nat.le_of_ble_eq_true rfl⟩) (pA_S hKc hPc) rfl rfl hl.1 rfl (lv_room (Nat.le_of_ble_eq_true rfl)) dX12_sought_6 ⟨Nat.le_of_ble_eq_true rfl, Nat.le_of_ble_eq_true rfl⟩) hS hA hP (fun r1 u1 H locs hw1 hP hS => ?_)
  have hw1 : r1 = if (0 ≤ w1.toInt ∧ w1.toInt ≤ 2) then 1 else 0 := hw1
  refine lv_if_ne (tgt := 14) hx hb dX12_sought_9 (by decide +kernel) (fun c2 => ?_) (fun c2 => ?_)
  · have f2 := fl_t hw1 c2
    refine lv_iload_n hx hb dX12_sought_14 rfl (lv_at hl 1 rfl) ?_
    refine lv_i2l (v := w.toInt64) hx hb dX12_sought_15 rfl ?_
    refine lv_lconst (v := 0) hx hb dX12_sought_16 (by decide +kernel) ?_
    refine lv_aload_n hx hb dX12_sought_17 rfl (lv_at hl 0 rfl) ?_
    refine mget_57 (v := (i 57)) rfl hx hb hts (fun _ h => List.mem_cons_of_mem _ (List.mem_append_right _ h)) hown hK hP (hts (.fieldLink RX12 158 "TalePlayModel" "soughtMany" "I") (List.mem_cons_of_mem _ (List.mem_append_left _ (List.mem_of_getElem? (i := 5) rfl)))) dX12_sought_18 ?_
    have rb57_i : (i 57).toInt = -9 ∨ (0 ≤ (i 57).toInt ∧ (i 57).toInt ≤ 300) := hI.1 57
    refine lv_iconst (v := 1) hx hb dX12_sought_21 (by decide +kernel) ?_
    refine lv_isub hx hb dX12_sought_22 ?_
    refine lv_topi (fun x3 ex3 => ?_)
    have tx3 := ti_sub (a := (i 57).toInt) (b := 1) ex3 rfl (by decide +kernel) (by omega) (by omega)
    refine lv_i2l (v := x3.toInt64) hx hb dX12_sought_23 rfl ?_
    have hPc := hP.sub (ws' := []) [] rfl
    have hKc := hK.sub (tys' := []) [] rfl
    refine ro_calli (va_runS (As := [.long w.toInt64, .long 0, .long x3.toInt64]) (rest := []) ⟨hx, hb, hml, hown, hts⟩ (c_X12_in l D H.size w.toInt64 0 x3.toInt64 w.toInt 0 ((i 57).toInt - 1) ((Int32.toInt_toInt64 w).trans rfl) (by decide +kernel) ((Int32.toInt_toInt64 x3).trans tx3)) (va_cwS 3 hts gm_X12_sought_X12_in rfl rfl rfl (by decide +kernel) ⟨Nat.le_of_ble_eq_true rfl, Nat.le_of_ble_eq_true rfl⟩) (pA_S hKc hPc) rfl rfl hl.1 rfl (lv_room (Nat.le_of_ble_eq_true rfl)) dX12_sought_24 ⟨Nat.le_of_ble_eq_true rfl, Nat.le_of_ble_eq_true rfl⟩) hS hA hP (fun r4 u4 H locs hw4 hP hS => ?_)
    have hw4 : r4 = if (0 ≤ w.toInt ∧ w.toInt ≤ ((i 57).toInt - 1)) then 1 else 0 := hw4
    refine lv_if_eq (tgt := 43) hx hb dX12_sought_27 (by decide +kernel) (fun c5 => ?_) (fun c5 => ?_)
    · have f5 := fl_f hw4 c5
      refine lv_bipush (v := (-9)) hx hb dX12_sought_43 (by decide +kernel) ?_
      exact ro_iret hx hb hr hlocks hS dX12_sought_45 trivial
    · have f5 := fl_t hw4 c5
      refine lv_aload_n hx hb dX12_sought_30 rfl (lv_at hl 0 rfl) ?_
      refine mget_56 hx hb hts (fun _ h => List.mem_cons_of_mem _ (List.mem_append_right _ h)) hown hK hP (hts (.fieldLink RX12 123 "TalePlayModel" "soughtRow" "[I") (List.mem_cons_of_mem _ (List.mem_append_left _ (List.mem_of_getElem? (i := 6) rfl)))) dX12_sought_31 ?_
      refine lv_iconst (v := 3) hx hb dX12_sought_34 (by decide +kernel) ?_
      refine lv_iload_n hx hb dX12_sought_35 rfl (lv_at hl 1 rfl) ?_
      refine lv_imul hx hb dX12_sought_36 ?_
      refine lv_topi (fun x6 ex6 => ?_)
      have tx6 := ti_mul (a := 3) (b := w.toInt) ex6 (by decide +kernel) rfl (by omega) (by omega)
      refine lv_iload_n hx hb dX12_sought_37 rfl (lv_at hl 2 rfl) ?_
      refine lv_iadd hx hb dX12_sought_38 ?_
      refine lv_topi (fun x7 ex7 => ?_)
      have tx7 := ti_add (a := (3 * w.toInt)) (b := w1.toInt) ex7 tx6 rfl (by omega) (by omega)
      refine mld_56 hx hb hK hP (vp_in_iff.mpr (by have h9 : x7.toInt = ((3 * w.toInt) + w1.toInt) := tx7; omega)) dX12_sought_39 (fun x8 ex8 => ?_)
      have rx8 : 0 ≤ x8.toInt ∧ x8.toInt ≤ 29 := by rw [ex8]; exact hI.2 56 _
      refine lv_goto (tgt := 45) hx hb dX12_sought_40 (by decide +kernel) ?_
      exact ro_iret hx hb hr hlocks hS dX12_sought_45 trivial
  · have f2 := fl_f hw1 c2
    refine lv_iconst (v := (-1)) hx hb dX12_sought_12 (by decide +kernel) ?_
    exact ro_iret hx hb hr hlocks hS dX12_sought_13 trivial

def wm_X12_line : List Cond := .code yX12_line cX12_line 5 (some .int) :: ((([.methodLink RX12 180 yX12_isObject, .instanceMethod yX12_isObject, .selects RX12 yX12_isObject yX12_isObject, .initialized RX12, .code yX12_isObject cX12_isObject 2 (some .boolean), .fieldLink RX12 177 "TalePlayModel" "objects" "I", .methodLink RX12 166 yX12_in, .static yX12_in, .code yX12_in cX12_in 6 (some .boolean), .constantLong RX12 279 (3), .fieldLink RX12 136 "TalePlayModel" "hasLine" "[Z", .fieldLink RX12 126 "TalePlayModel" "lineSort" "[I", .fieldLink RX12 129 "TalePlayModel" "lineMany" "[I", .fieldLink RX12 132 "TalePlayModel" "items" "[J", .methodLink RX12 233 yX12_meets, .instanceMethod yX12_meets] : List Cond) ++ ([.selects RX12 yX12_meets yX12_meets, .code yX12_meets cX12_meets 2 (some .int), .fieldLink RX12 161 "TalePlayModel" "latest" "I", .fieldLink RX12 7 "TalePlayModel" "came" "[I"] : List Cond)) ++ wsX120)
set_option maxRecDepth 20000 in
theorem gm_X12_line_X12_isObject : GoodIn wm_X12_line (wsV RX12 180 RX12 yX12_isObject wm_X12_isObject) := goodIn_w (List.forall_mem_append.mpr ⟨List.forall_mem_cons.mpr ⟨List.mem_cons_of_mem _ (List.mem_append_left _ (List.mem_append_left _ (List.mem_of_getElem? (i := 0) rfl))), List.forall_mem_cons.mpr ⟨List.mem_cons_of_mem _ (List.mem_append_left _ (List.mem_append_left _ (List.mem_of_getElem? (i := 1) rfl))), List.forall_mem_cons.mpr ⟨List.mem_cons_of_mem _ (List.mem_append_left _ (List.mem_append_left _ (List.mem_of_getElem? (i := 2) rfl))), List.forall_mem_cons.mpr ⟨List.mem_cons_of_mem _ (List.mem_append_left _ (List.mem_append_left _ (List.mem_of_getElem? (i := 3) rfl))), (fun _ h => absurd h List.not_mem_nil)⟩⟩⟩⟩, List.forall_mem_cons.mpr ⟨List.mem_cons_of_mem _ (List.mem_append_left _ (List.mem_append_left _ (List.mem_of_getElem? (i := 4) rfl))), List.forall_mem_append.mpr ⟨List.forall_mem_cons.mpr ⟨List.mem_cons_of_mem _ (List.mem_append_left _ (List.mem_append_left _ (List.mem_of_getElem? (i := 5) rfl))), List.forall_mem_cons.mpr ⟨List.mem_cons_of_mem _ (List.mem_append_left _ (List.mem_append_left _ (List.mem_of_getElem? (i := 6) rfl))), List.forall_mem_cons.mpr ⟨List.mem_cons_of_mem _ (List.mem_append_left _ (List.mem_append_left _ (List.mem_of_getElem? (i := 7) rfl))), List.forall_mem_cons.mpr ⟨List.mem_cons_of_mem _ (List.mem_append_left _ (List.mem_append_left _ (List.mem_of_getElem? (i := 3) rfl))), List.forall_mem_cons.mpr ⟨List.mem_cons_of_mem _ (List.mem_append_left _ (List.mem_append_left _ (List.mem_of_getElem? (i := 8) rfl))), (fun _ h => absurd h List.not_mem_nil)⟩⟩⟩⟩⟩, (fun _ h => List.mem_cons_of_mem _ (List.mem_append_right _ h))⟩⟩⟩) (by decide +kernel)
set_option maxRecDepth 20000 in
theorem gm_X12_line_X12_in : GoodIn wm_X12_line (va_wsS RX12 166 yX12_in wm_X12_in) := goodIn_w (List.forall_mem_append.mpr ⟨List.forall_mem_cons.mpr ⟨List.mem_cons_of_mem _ (List.mem_append_left _ (List.mem_append_left _ (List.mem_of_getElem? (i := 6) rfl))), List.forall_mem_cons.mpr ⟨List.mem_cons_of_mem _ (List.mem_append_left _ (List.mem_append_left _ (List.mem_of_getElem? (i := 7) rfl))), List.forall_mem_cons.mpr ⟨List.mem_cons_of_mem _ (List.mem_append_left _ (List.mem_append_left _ (List.mem_of_getElem? (i := 3) rfl))), (fun _ h => absurd h List.not_mem_nil)⟩⟩⟩, List.forall_mem_cons.mpr ⟨List.mem_cons_of_mem _ (List.mem_append_left _ (List.mem_append_left _ (List.mem_of_getElem? (i := 8) rfl))), (fun _ h => absurd h List.not_mem_nil)⟩⟩) (by decide +kernel)
set_option maxRecDepth 20000 in
theorem gm_X12_line_X12_meets : GoodIn wm_X12_line (wsV RX12 233 RX12 yX12_meets wm_X12_meets) := goodIn_w (List.forall_mem_append.mpr ⟨List.forall_mem_cons.mpr ⟨List.mem_cons_of_mem _ (List.mem_append_left _ (List.mem_append_left _ (List.mem_of_getElem? (i := 14) rfl))), List.forall_mem_cons.mpr ⟨List.mem_cons_of_mem _ (List.mem_append_left _ (List.mem_append_left _ (List.mem_of_getElem? (i := 15) rfl))), List.forall_mem_cons.mpr ⟨List.mem_cons_of_mem _ (List.mem_append_left _ (List.mem_append_right _ (List.mem_of_getElem? (i := 0) rfl))), List.forall_mem_cons.mpr ⟨List.mem_cons_of_mem _ (List.mem_append_left _ (List.mem_append_left _ (List.mem_of_getElem? (i := 3) rfl))), (fun _ h => absurd h List.not_mem_nil)⟩⟩⟩⟩, List.forall_mem_cons.mpr ⟨List.mem_cons_of_mem _ (List.mem_append_left _ (List.mem_append_right _ (List.mem_of_getElem? (i := 1) rfl))), List.forall_mem_append.mpr ⟨List.forall_mem_cons.mpr ⟨List.mem_cons_of_mem _ (List.mem_append_left _ (List.mem_append_right _ (List.mem_of_getElem? (i := 2) rfl))), List.forall_mem_cons.mpr ⟨List.mem_cons_of_mem _ (List.mem_append_left _ (List.mem_append_right _ (List.mem_of_getElem? (i := 3) rfl))), (fun _ h => absurd h List.not_mem_nil)⟩⟩, (fun _ h => List.mem_cons_of_mem _ (List.mem_append_right _ h))⟩⟩⟩) (by decide +kernel)
set_option maxHeartbeats 4000000 in
set_option maxRecDepth 100000 in
theorem s_X12_line (l : Launch) (D : va_G) (sz : Nat) (o : Nat) (a : Nat → Nat) (t : Nat → ClassId) (i : Nat → Int32) (q : Int64) (c : Nat → Nat → Int32) (d : Nat → Nat → Int64) (w : Int32) (s1 : Int32) (n1 : Int32) (hI : mInv i c) : Met l yX12_line wm_X12_line ({ frames := 2, cells := 0, slots := 0, locals := 46 }) (va_Pc [.ref o, .int w, .int s1, .int n1] (pB D sz (mW o a t i q c d) (mT t))) (va_Qi (fun (r : Int32) (u : MS) => True ∧ mInv u.1 u.2.2.1 ∧ (∀ k, k ∉ ([0] : List Nat) → u.1 k = i k) ∧ (∀ k, k ∉ ([1, 60, 61, 63] : List Nat) → u.2.2.1 k = c k)) (oC D (va_A (mW o a t i q c d) sz) (fun u : MS => mW o a t u.1 u.2.1 u.2.2.1 u.2.2.2) (fun _ => [])) (va_A (mW o a t i q c d) sz)) 0 0 (va_A (mW o a t i q c d) sz) := by
  refine Met.ofW (cc := cX12_line) (maxL := 5) (ret := (some .int)) (by decide +kernel) rfl ?_
  intro p e s m args below meth cd s₁ B hml hv
  obtain ⟨rfl, hsz, hP, hK, hD0⟩ := hv
  have hx := B.exec
  have hb := B.bytes
  have hr := B.returns
  have hts := atoms_spec (ws := wm_X12_line) B.pre
  have hown : s.vm.findClass RX12 = some m.cls := findClass_of_methodNamed B.named
  have hlocks := B.notSynchronized
  subst hsz
  have hD := hD0.self (sz := s.heap.size)
  generalize hAe : va_A (mW o a t i q c d) s.heap.size = A at hD ⊢
  have hA : ∀ q : Nat, s.heap.size ≤ q → A q := fun q h => by rw [← hAe]; exact Or.inr h
  have hS : va_S A s.heap s.heap [] := va_S.rf
  have hfi : ∀ k, k ∉ ([] : List Nat) → i k = i k := fun _ _ => rfl
  have hfc : ∀ k, k ∉ ([] : List Nat) → c k = c k := fun _ _ => rfl
  have hl := lv_entry ([.ref o, .int w, .int s1, .int n1]) (n := 5) (Nat.le_of_ble_eq_true rfl)
  rw [lg_entry_eq]
  generalize (lg_sl ([.ref o, .int w, .int s1, .int n1]) ++ List.replicate (5 - (lg_sl ([.ref o, .int w, .int s1, .int n1])).length) Slot.unset).toArray = ls at hl ⊢
  have hl : lv_has ls 5 [(0, .ref o), (1, .int w), (2, .int s1), (3, .int n1)] := hl
  refine lv_aload_n hx hb dX12_line_0 rfl (lv_at hl 0 rfl) ?_
  refine lv_iload_n hx hb dX12_line_1 rfl (lv_at hl 1 rfl) ?_
  have rb5_i : 0 ≤ (i 5).toInt ∧ (i 5).toInt ≤ 30 := hI.1 5
  refine ro_calli (va_runV (As := [.int w]) (rest := []) ⟨hx, hb, hml, hown, hts⟩ (s_X12_isObject l D s.heap.size o a t i q c d w hI ) (cwV 1 hts gm_X12_line_X12_isObject rfl rfl rfl (by decide +kernel) ⟨Nat.le_of_ble_eq_true rfl, Nat.le_of_ble_eq_true rfl⟩) (pA_V hK hP (ci := 12) (q0 := 0) rfl rfl) rfl rfl hl.1 rfl (lv_room (Nat.le_of_ble_eq_true rfl)) dX12_line_2 ⟨Nat.le_of_ble_eq_true rfl, Nat.le_of_ble_eq_true rfl⟩) hS hA hP (fun r1 u1 H locs hw1 hP hS => ?_)
  have hw1 : r1 = if (0 ≤ w.toInt ∧ w.toInt ≤ (i 5).toInt - 1) then 1 else 0 := hw1
  refine lv_if_eq (tgt := 26) hx hb dX12_line_5 (by decide +kernel) (fun c2 => ?_) (fun c2 => ?_)
  · have f2 := fl_f hw1 c2
    refine lv_iconst (v := (-1)) hx hb dX12_line_26 (by decide +kernel) ?_
    exact rw_iret (i, q, c, d) hx hb hr hlocks hS (hK.sub (tys' := []) [] rfl) hP hD dX12_line_27 ⟨trivial, hI, fr_w hfi (by decide +kernel), fr_w hfc (by decide +kernel)⟩
  · have f2 := fl_t hw1 c2
    refine lv_iload_n hx hb dX12_line_8 rfl (lv_at hl 2 rfl) ?_
    refine lv_i2l (v := s1.toInt64) hx hb dX12_line_9 rfl ?_
    refine lv_lconst (v := 0) hx hb dX12_line_10 (by decide +kernel) ?_
    refine lv_ldc2 (v := 3) hx hb hown (hts (.constantLong RX12 279 (3)) (List.mem_cons_of_mem _ (List.mem_append_left _ (List.mem_append_left _ (List.mem_of_getElem? (i := 9) rfl))))) dX12_line_11 ?_
    have hPc := hP.sub (ws' := []) [] rfl
    have hKc := hK.sub (tys' := []) [] rfl
    refine ro_calli (va_runS (As := [.long s1.toInt64, .long 0, .long 3]) (rest := []) ⟨hx, hb, hml, hown, hts⟩ (c_X12_in l D H.size s1.toInt64 0 3 s1.toInt 0 3 ((Int32.toInt_toInt64 s1).trans rfl) (by decide +kernel) (by decide +kernel)) (va_cwS 3 hts gm_X12_line_X12_in rfl rfl rfl (by decide +kernel) ⟨Nat.le_of_ble_eq_true rfl, Nat.le_of_ble_eq_true rfl⟩) (pA_S hKc hPc) rfl rfl hl.1 rfl (lv_room (Nat.le_of_ble_eq_true rfl)) dX12_line_14 ⟨Nat.le_of_ble_eq_true rfl, Nat.le_of_ble_eq_true rfl⟩) hS hA hP (fun r3 u3 H locs hw3 hP hS => ?_)
    have hw3 : r3 = if (0 ≤ s1.toInt ∧ s1.toInt ≤ 3) then 1 else 0 := hw3
    refine lv_if_eq (tgt := 26) hx hb dX12_line_17 (by decide +kernel) (fun c4 => ?_) (fun c4 => ?_)
    · have f4 := fl_f hw3 c4
      refine lv_iconst (v := (-1)) hx hb dX12_line_26 (by decide +kernel) ?_
      exact rw_iret (i, q, c, d) hx hb hr hlocks hS (hK.sub (tys' := []) [] rfl) hP hD dX12_line_27 ⟨trivial, hI, fr_w hfi (by decide +kernel), fr_w hfc (by decide +kernel)⟩
    · have f4 := fl_t hw3 c4
      refine lv_iload_n hx hb dX12_line_20 rfl (lv_at hl 3 rfl) ?_
      refine lv_bipush (v := 12) hx hb dX12_line_21 (by decide +kernel) ?_
      refine lv_icmp_le (tgt := 28) hx hb dX12_line_23 (by decide +kernel) (fun c5 => ?_) (fun c5 => ?_)
      · have f5 := (ti_le (a := n1.toInt) (b := 12) rfl (by decide +kernel)).mp c5
        refine lv_iload_n hx hb dX12_line_28 rfl (lv_at hl 3 rfl) ?_
        refine lv_if_ge (tgt := 38) hx hb dX12_line_29 (by decide +kernel) (fun c6 => ?_) (fun c6 => ?_)
        · have f6 := (ti_le (a := 0) (b := n1.toInt) (by decide +kernel) rfl).mp c6
          refine lv_aload_n hx hb dX12_line_38 rfl (lv_at hl 0 rfl) ?_
          refine mget_63 hx hb hts (fun _ h => List.mem_cons_of_mem _ (List.mem_append_right _ h)) hown hK hP (hts (.fieldLink RX12 136 "TalePlayModel" "hasLine" "[Z") (List.mem_cons_of_mem _ (List.mem_append_left _ (List.mem_append_left _ (List.mem_of_getElem? (i := 10) rfl))))) dX12_line_39 ?_
          refine lv_iload_n hx hb dX12_line_42 rfl (lv_at hl 1 rfl) ?_
          refine lv_iconst (v := 1) hx hb dX12_line_43 (by decide +kernel) ?_
          refine mst_63 hx hb hK hP hD hS (vp_in_iff.mpr (by have h9 : w.toInt = w.toInt := rfl; omega)) (nb_z (show 0 ≤ (1 : Int32).toInt ∧ (1 : Int32).toInt ≤ 1 from by decide +kernel)) dX12_line_44 (fun H locs hP hD hS => ?_)
          have hI := mInv_c hI (k := 63) (j := (w : Int32).toNatClampNeg) (x := 1) (show 0 ≤ (1 : Int32).toInt ∧ (1 : Int32).toInt ≤ 1 from by decide +kernel)
          have hfc : ∀ k, k ∉ ([63] : List Nat) → (updA c 63 (w : Int32).toNatClampNeg 1) k = c k := fr_cz hfc (by decide +kernel) (by decide +kernel)
          refine lv_aload_n hx hb dX12_line_45 rfl (lv_at hl 0 rfl) ?_
          refine mget_60 hx hb hts (fun _ h => List.mem_cons_of_mem _ (List.mem_append_right _ h)) hown hK hP (hts (.fieldLink RX12 126 "TalePlayModel" "lineSort" "[I") (List.mem_cons_of_mem _ (List.mem_append_left _ (List.mem_append_left _ (List.mem_of_getElem? (i := 11) rfl))))) dX12_line_46 ?_
          refine lv_iload_n hx hb dX12_line_49 rfl (lv_at hl 1 rfl) ?_
          refine lv_iload_n hx hb dX12_line_50 rfl (lv_at hl 2 rfl) ?_
          refine mst_60 hx hb hK hP hD hS (vp_in_iff.mpr (by have h9 : w.toInt = w.toInt := rfl; omega)) dX12_line_51 (fun H locs hP hD hS => ?_)
          have hI := mInv_c hI (k := 60) (j := (w : Int32).toNatClampNeg) (x := s1) (show 0 ≤ (s1 : Int32).toInt ∧ (s1 : Int32).toInt ≤ 3 from by omega)
          have hfc : ∀ k, k ∉ ([60, 63] : List Nat) → (updA (updA c 63 (w : Int32).toNatClampNeg 1) 60 (w : Int32).toNatClampNeg s1) k = c k := fr_cz hfc (by decide +kernel) (by decide +kernel)
          refine lv_aload_n hx hb dX12_line_52 rfl (lv_at hl 0 rfl) ?_
          refine mget_61 hx hb hts (fun _ h => List.mem_cons_of_mem _ (List.mem_append_right _ h)) hown hK hP (hts (.fieldLink RX12 129 "TalePlayModel" "lineMany" "[I") (List.mem_cons_of_mem _ (List.mem_append_left _ (List.mem_append_left _ (List.mem_of_getElem? (i := 12) rfl))))) dX12_line_53 ?_
          refine lv_iload_n hx hb dX12_line_56 rfl (lv_at hl 1 rfl) ?_
          refine lv_iload_n hx hb dX12_line_57 rfl (lv_at hl 3 rfl) ?_
          refine mst_61 hx hb hK hP hD hS (vp_in_iff.mpr (by have h9 : w.toInt = w.toInt := rfl; omega)) dX12_line_58 (fun H locs hP hD hS => ?_)
          have hI := mInv_c hI (k := 61) (j := (w : Int32).toNatClampNeg) (x := n1) (show 0 ≤ (n1 : Int32).toInt ∧ (n1 : Int32).toInt ≤ 12 from by omega)
          have hfc : ∀ k, k ∉ ([60, 61, 63] : List Nat) → (updA (updA (updA c 63 (w : Int32).toNatClampNeg 1) 60 (w : Int32).toNatClampNeg s1) 61 (w : Int32).toNatClampNeg n1) k = c k := fr_cz hfc (by decide +kernel) (by decide +kernel)
          refine lv_iconst (v := 0) hx hb dX12_line_59 (by decide +kernel) ?_
          refine lv_istore (lv' := [(4, .int 0), (0, .ref o), (1, .int w), (2, .int s1), (3, .int n1)]) hx hb dX12_line_60 hl (by decide +kernel) rfl (fun ls hl => ?_)
          have lp7 : ∀ (fu : Nat) (i7 : Nat → Int32) (q7 : Int64) (c7 : Nat → Nat → Int32) (d7 : Nat → Nat → Int64) (y7_4 : Int32), mInv i7 c7 → (∀ k, k ∉ ([] : List Nat) → i7 k = i k) → (∀ k, k ∉ ([60, 61, 63] : List Nat) → c7 k = c k) → (0 ≤ y7_4.toInt ∧ y7_4.toInt ≤ 12) → (12 - y7_4.toInt).toNat < fu → ∀ (H : Heap) (locs : List Loc) (ls : Array Slot), va_P D vwCl (mW o a t i7 q7 c7 d7) H → va_D A (mW o a t i7 q7 c7 d7) → va_S A s.heap H locs → lv_has ls 5 [(4, .int y7_4), (0, .ref o), (1, .int w), (2, .int s1), (3, .int n1)] → W p l e (headSpec wm_X12_line ({ frames := 2, cells := 0, slots := 0, locals := 46 })).room s m ([.ref o, .int w, .int s1, .int n1] : List Value).toArray below meth cd H locs 0 0 (MQ below (va_Qi (fun (r : Int32) (u : MS) => True ∧ mInv u.1 u.2.2.1 ∧ (∀ k, k ∉ ([0] : List Nat) → u.1 k = i k) ∧ (∀ k, k ∉ ([1, 60, 61, 63] : List Nat) → u.2.2.1 k = c k)) (oC D A (fun u : MS => mW o a t u.1 u.2.1 u.2.2.1 u.2.2.2) (fun _ => [])) A) ([.ref o, .int w, .int s1, .int n1] : List Value).toArray s 0 0 A) (F0 m 62 ls []) := by
            intro fu
            induction fu with
            | zero => intro i7 q7 c7 d7 y7_4 hI hfi hfc hy7_4 hm; exact absurd hm (Nat.not_lt_zero _)
            | succ fu ih =>
              intro i7 q7 c7 d7 y7_4 hI hfi hfc hy7_4 hm H locs ls hP hD hS hl
              have ih7 := ih
              refine lv_iload hx hb dX12_line_62 (lv_at hl 0 rfl) ?_
              refine lv_bipush (v := 12) hx hb dX12_line_64 (by decide +kernel) ?_
              refine lv_icmp_ge (tgt := 88) hx hb dX12_line_66 (by decide +kernel) (fun c8 => ?_) (fun c8 => ?_)
              · have f8 := (ti_le (a := 12) (b := y7_4.toInt) (by decide +kernel) rfl).mp c8
                refine lv_iload_n hx hb dX12_line_88 rfl (lv_at hl 4 rfl) ?_
                exact rw_iret (i7, q7, c7, d7) hx hb hr hlocks hS (hK.sub (tys' := []) [] rfl) hP hD dX12_line_89 ⟨trivial, hI, fr_w hfi (by decide +kernel), fr_w hfc (by decide +kernel)⟩
              · have f8 := mt (ti_le (a := 12) (b := y7_4.toInt) (by decide +kernel) rfl).mpr c8
                refine lv_aload_n hx hb dX12_line_69 rfl (lv_at hl 1 rfl) ?_
                refine mget_62 hx hb hts (fun _ h => List.mem_cons_of_mem _ (List.mem_append_right _ h)) hown hK hP (hts (.fieldLink RX12 132 "TalePlayModel" "items" "[J") (List.mem_cons_of_mem _ (List.mem_append_left _ (List.mem_append_left _ (List.mem_of_getElem? (i := 13) rfl))))) dX12_line_70 ?_
                refine lv_bipush (v := 12) hx hb dX12_line_73 (by decide +kernel) ?_
                refine lv_iload_n hx hb dX12_line_75 rfl (lv_at hl 2 rfl) ?_
                refine lv_imul hx hb dX12_line_76 ?_
                refine lv_topi (fun x9 ex9 => ?_)
                have tx9 := ti_mul (a := 12) (b := w.toInt) ex9 (by decide +kernel) rfl (by omega) (by omega)
                refine lv_iload hx hb dX12_line_77 (lv_at hl 0 rfl) ?_
                refine lv_iadd hx hb dX12_line_79 ?_
                refine lv_topi (fun x10 ex10 => ?_)
                have tx10 := ti_add (a := (12 * w.toInt)) (b := y7_4.toInt) ex10 tx9 rfl (by omega) (by omega)
                refine lv_lconst (v := 0) hx hb dX12_line_80 (by decide +kernel) ?_
                refine mst_62 hx hb hK hP hD hS (vp_in_iff.mpr (by have h9 : x10.toInt = ((12 * w.toInt) + y7_4.toInt) := tx10; omega)) dX12_line_81 (fun H locs hP hD hS => ?_)
                obtain ⟨x11, ex11⟩ : ∃ y : Int32, y = y7_4 + 1 := ⟨_, rfl⟩
                have tx11 := ti_add (a := y7_4.toInt) (b := 1) ex11 rfl (by decide +kernel) (by omega) (by omega)
                refine lv_iinc (v := x11) (lv' := [(4, .int x11), (0, .ref o), (1, .int w), (2, .int s1), (3, .int n1)]) hx hb dX12_line_82 hl (k := 0) rfl (by rw [ex11]; rfl) (by decide +kernel) rfl (fun ls hl => ?_)
                refine lv_goto (tgt := 62) hx hb dX12_line_85 (by decide +kernel) ?_
                exact ih7 i7 q7 c7 (updD d7 62 (x10 : Int32).toNatClampNeg 0) x11 hI (fr_w hfi (by decide +kernel)) (fr_w hfc (by decide +kernel)) (show 0 ≤ x11.toInt ∧ x11.toInt ≤ 12 from by have h50 : x11.toInt = (y7_4.toInt + 1) := tx11; omega) (by have h50 : x11.toInt = (y7_4.toInt + 1) := tx11; omega) _ _ _ hP hD hS (lv_sub hl [0, 1, 2, 3, 4] rfl)
          exact lp7 _ i q (updA (updA (updA c 63 (w : Int32).toNatClampNeg 1) 60 (w : Int32).toNatClampNeg s1) 61 (w : Int32).toNatClampNeg n1) d (0 : Int32) hI (fr_w hfi (by decide +kernel)) (fr_w hfc (by decide +kernel)) (show 0 ≤ (0 : Int32).toInt ∧ (0 : Int32).toInt ≤ 12 from by decide +kernel) (Nat.lt_succ_self _) _ _ _ hP hD hS (lv_sub hl [0, 1, 2, 3, 4] rfl)
        · have f6 := mt (ti_le (a := 0) (b := n1.toInt) (by decide +kernel) rfl).mpr c6
          refine lv_aload_n hx hb dX12_line_32 rfl (lv_at hl 0 rfl) ?_
          refine lv_iconst (v := 5) hx hb dX12_line_33 (by decide +kernel) ?_
          refine al_calli (va_runV (As := [.int 5]) (rest := []) ⟨hx, hb, hml, hown, hts⟩ (s_X12_meets l D H.size o a t i q c d 5 hI (show 1 ≤ 5 ∧ 5 ≤ 6 from by decide +kernel)) (cwV 1 hts gm_X12_line_X12_meets rfl rfl rfl (by decide +kernel) ⟨Nat.le_of_ble_eq_true rfl, Nat.le_of_ble_eq_true rfl⟩) (pB_V hK hP hD (ci := 12) (q0 := 0) rfl rfl) rfl rfl hl.1 rfl (lv_room (Nat.le_of_ble_eq_true rfl)) dX12_line_34 ⟨Nat.le_of_ble_eq_true rfl, Nat.le_of_ble_eq_true rfl⟩) hS hA hP hD (fun r12 u12 H locs hw12 hP hD hS => ?_)
          obtain ⟨i12, q12, c12, d12⟩ := u12
          have hw12 : r12 = (-3) ∧ mInv i12 c12 ∧ (∀ k, k ∉ ([0] : List Nat) → i12 k = i k) ∧ (∀ k, k ∉ ([1] : List Nat) → c12 k = c k) := hw12
          obtain ⟨hw12, hI, hei12, hec12⟩ := hw12
          have hfi : ∀ k, k ∉ ([0] : List Nat) → i12 k = i k := fr_z hfi hei12 (by decide +kernel) (by decide +kernel)
          have hfc : ∀ k, k ∉ ([1] : List Nat) → c12 k = c k := fr_z hfc hec12 (by decide +kernel) (by decide +kernel)
          have hP : va_P D vwCl (mW o a t i12 q12 c12 d12) H := hP
          have hD : va_D A (mW o a t i12 q12 c12 d12) := hD
          have hw12 : r12 = (-3) := hw12
          subst hw12
          exact rw_iret (i12, q12, c12, d12) hx hb hr hlocks hS (hK.sub (tys' := []) [] rfl) hP hD dX12_line_37 ⟨trivial, hI, fr_w hfi (by decide +kernel), fr_w hfc (by decide +kernel)⟩
      · have f5 := mt (ti_le (a := n1.toInt) (b := 12) rfl (by decide +kernel)).mpr c5
        refine lv_iconst (v := (-1)) hx hb dX12_line_26 (by decide +kernel) ?_
        exact rw_iret (i, q, c, d) hx hb hr hlocks hS (hK.sub (tys' := []) [] rfl) hP hD dX12_line_27 ⟨trivial, hI, fr_w hfi (by decide +kernel), fr_w hfc (by decide +kernel)⟩

def wm_X12_lacks : List Cond := .code yX12_lacks cX12_lacks 4 (some .int) :: (([.fieldLink RX12 136 "TalePlayModel" "hasLine" "[Z", .fieldLink RX12 126 "TalePlayModel" "lineSort" "[I", .fieldLink RX12 129 "TalePlayModel" "lineMany" "[I", .methodLink RX12 166 yX12_in, .static yX12_in, .initialized RX12, .code yX12_in cX12_in 6 (some .boolean)] : List Cond) ++ wsX120)
set_option maxRecDepth 20000 in
theorem gm_X12_lacks_X12_in : GoodIn wm_X12_lacks (va_wsS RX12 166 yX12_in wm_X12_in) := goodIn_w (List.forall_mem_append.mpr ⟨List.forall_mem_cons.mpr ⟨List.mem_cons_of_mem _ (List.mem_append_left _ (List.mem_of_getElem? (i := 3) rfl)), List.forall_mem_cons.mpr ⟨List.mem_cons_of_mem _ (List.mem_append_left _ (List.mem_of_getElem? (i := 4) rfl)), List.forall_mem_cons.mpr ⟨List.mem_cons_of_mem _ (List.mem_append_left _ (List.mem_of_getElem? (i := 5) rfl)), (fun _ h => absurd h List.not_mem_nil)⟩⟩⟩, List.forall_mem_cons.mpr ⟨List.mem_cons_of_mem _ (List.mem_append_left _ (List.mem_of_getElem? (i := 6) rfl)), (fun _ h => absurd h List.not_mem_nil)⟩⟩) (by decide +kernel)
set_option maxHeartbeats 4000000 in
set_option maxRecDepth 100000 in
theorem s_X12_lacks (l : Launch) (D : va_G) (sz : Nat) (o : Nat) (a : Nat → Nat) (t : Nat → ClassId) (i : Nat → Int32) (q : Int64) (c : Nat → Nat → Int32) (d : Nat → Nat → Int64) (w : Int32) (s1 : Int32) (n1 : Int32) (hI : mInv i c) (hw : 0 ≤ w.toInt ∧ w.toInt ≤ 29) : Met l yX12_lacks wm_X12_lacks ({ frames := 1, cells := 0, slots := 0, locals := 25 }) (va_Pc [.ref o, .int w, .int s1, .int n1] (pA D sz (mW o a t i q c d) (mT t))) (va_Qi (fun (r : Int32) (_ : Unit) => (r.toInt = 1 ∨ r.toInt = 2 ∨ r.toInt = 3 ∨ (r.toInt = 0 ∧ 0 ≤ n1.toInt ∧ n1.toInt ≤ 11))) oA (ro sz)) 0 0 (ro sz) := by
  refine Met.ofW (cc := cX12_lacks) (maxL := 4) (ret := (some .int)) (by decide +kernel) rfl ?_
  intro p e s m args below meth cd s₁ B hml hv
  obtain ⟨rfl, hsz, hP, hK⟩ := hv
  have hx := B.exec
  have hb := B.bytes
  have hr := B.returns
  have hts := atoms_spec (ws := wm_X12_lacks) B.pre
  have hown : s.vm.findClass RX12 = some m.cls := findClass_of_methodNamed B.named
  have hlocks := B.notSynchronized
  subst hsz
  have hA : ∀ q : Nat, s.heap.size ≤ q → ro s.heap.size q := fun _ h => h
  have hS : va_S (ro s.heap.size) s.heap s.heap [] := va_S.rf
  have hl := lv_entry ([.ref o, .int w, .int s1, .int n1]) (n := 4) (Nat.le_of_ble_eq_true rfl)
  rw [lg_entry_eq]
  generalize (lg_sl ([.ref o, .int w, .int s1, .int n1]) ++ List.replicate (4 - (lg_sl ([.ref o, .int w, .int s1, .int n1])).length) Slot.unset).toArray = ls at hl ⊢
  have hl : lv_has ls 4 [(0, .ref o), (1, .int w), (2, .int s1), (3, .int n1)] := hl
  refine lv_aload_n hx hb dX12_lacks_0 rfl (lv_at hl 0 rfl) ?_
  refine mget_63 hx hb hts (fun _ h => List.mem_cons_of_mem _ (List.mem_append_right _ h)) hown hK hP (hts (.fieldLink RX12 136 "TalePlayModel" "hasLine" "[Z") (List.mem_cons_of_mem _ (List.mem_append_left _ (List.mem_of_getElem? (i := 0) rfl)))) dX12_lacks_1 ?_
  refine lv_iload_n hx hb dX12_lacks_4 rfl (lv_at hl 1 rfl) ?_
  refine mld_63 hx hb hK hP (vp_in_iff.mpr (by have h9 : w.toInt = w.toInt := rfl; omega)) dX12_lacks_5 (fun x1 ex1 => ?_)
  have rx1 : 0 ≤ x1.toInt ∧ x1.toInt ≤ 1 := by rw [ex1]; exact hI.2 63 _
  refine lv_if_ne (tgt := 13) hx hb dX12_lacks_6 (by decide +kernel) (fun c2 => ?_) (fun c2 => ?_)
  · have f2 := mt (ti_eq (a := x1.toInt) (b := 0) rfl (by decide +kernel)).mpr c2
    refine lv_aload_n hx hb dX12_lacks_13 rfl (lv_at hl 0 rfl) ?_
    refine mget_60 hx hb hts (fun _ h => List.mem_cons_of_mem _ (List.mem_append_right _ h)) hown hK hP (hts (.fieldLink RX12 126 "TalePlayModel" "lineSort" "[I") (List.mem_cons_of_mem _ (List.mem_append_left _ (List.mem_of_getElem? (i := 1) rfl)))) dX12_lacks_14 ?_
    refine lv_iload_n hx hb dX12_lacks_17 rfl (lv_at hl 1 rfl) ?_
    refine mld_60 hx hb hK hP (vp_in_iff.mpr (by have h9 : w.toInt = w.toInt := rfl; omega)) dX12_lacks_18 (fun x3 ex3 => ?_)
    have rx3 : 0 ≤ x3.toInt ∧ x3.toInt ≤ 3 := by rw [ex3]; exact hI.2 60 _
    refine lv_iload_n hx hb dX12_lacks_19 rfl (lv_at hl 2 rfl) ?_
    refine lv_icmp_eq (tgt := 27) hx hb dX12_lacks_20 (by decide +kernel) (fun c4 => ?_) (fun c4 => ?_)
    · have f4 := (ti_eq (a := x3.toInt) (b := s1.toInt) rfl rfl).mp c4
      refine lv_iload_n hx hb dX12_lacks_27 rfl (lv_at hl 3 rfl) ?_
      refine lv_i2l (v := n1.toInt64) hx hb dX12_lacks_28 rfl ?_
      refine lv_lconst (v := 0) hx hb dX12_lacks_29 (by decide +kernel) ?_
      refine lv_aload_n hx hb dX12_lacks_30 rfl (lv_at hl 0 rfl) ?_
      refine mget_61 hx hb hts (fun _ h => List.mem_cons_of_mem _ (List.mem_append_right _ h)) hown hK hP (hts (.fieldLink RX12 129 "TalePlayModel" "lineMany" "[I") (List.mem_cons_of_mem _ (List.mem_append_left _ (List.mem_of_getElem? (i := 2) rfl)))) dX12_lacks_31 ?_
      refine lv_iload_n hx hb dX12_lacks_34 rfl (lv_at hl 1 rfl) ?_
      refine mld_61 hx hb hK hP (vp_in_iff.mpr (by have h9 : w.toInt = w.toInt := rfl; omega)) dX12_lacks_35 (fun x5 ex5 => ?_)
      have rx5 : 0 ≤ x5.toInt ∧ x5.toInt ≤ 12 := by rw [ex5]; exact hI.2 61 _
      refine lv_iconst (v := 1) hx hb dX12_lacks_36 (by decide +kernel) ?_
      refine lv_isub hx hb dX12_lacks_37 ?_
      refine lv_topi (fun x6 ex6 => ?_)
      have tx6 := ti_sub (a := x5.toInt) (b := 1) ex6 rfl (by decide +kernel) (by omega) (by omega)
      refine lv_i2l (v := x6.toInt64) hx hb dX12_lacks_38 rfl ?_
      have hPc := hP.sub (ws' := []) [] rfl
      have hKc := hK.sub (tys' := []) [] rfl
      refine ro_calli (va_runS (As := [.long n1.toInt64, .long 0, .long x6.toInt64]) (rest := []) ⟨hx, hb, hml, hown, hts⟩ (c_X12_in l D s.heap.size n1.toInt64 0 x6.toInt64 n1.toInt 0 (x5.toInt - 1) ((Int32.toInt_toInt64 n1).trans rfl) (by decide +kernel) ((Int32.toInt_toInt64 x6).trans tx6)) (va_cwS 3 hts gm_X12_lacks_X12_in rfl rfl rfl (by decide +kernel) ⟨Nat.le_of_ble_eq_true rfl, Nat.le_of_ble_eq_true rfl⟩) (pA_S hKc hPc) rfl rfl hl.1 rfl (lv_room (Nat.le_of_ble_eq_true rfl)) dX12_lacks_39 ⟨Nat.le_of_ble_eq_true rfl, Nat.le_of_ble_eq_true rfl⟩) hS hA hP (fun r7 u7 H locs hw7 hP hS => ?_)
      have hw7 : r7 = if (0 ≤ n1.toInt ∧ n1.toInt ≤ (x5.toInt - 1)) then 1 else 0 := hw7
      refine lv_if_ne (tgt := 49) hx hb dX12_lacks_42 (by decide +kernel) (fun c8 => ?_) (fun c8 => ?_)
      · have f8 := fl_t hw7 c8
        refine lv_iconst (v := 0) hx hb dX12_lacks_49 (by decide +kernel) ?_
        exact ro_iret hx hb hr hlocks hS dX12_lacks_50 (show (0 : Int32).toInt = 1 ∨ (0 : Int32).toInt = 2 ∨ (0 : Int32).toInt = 3 ∨ ((0 : Int32).toInt = 0 ∧ 0 ≤ n1.toInt ∧ n1.toInt ≤ 11) from by have h9 : (0 : Int32).toInt = 0 := (by decide +kernel); omega)
      · have f8 := fl_f hw7 c8
        refine lv_iconst (v := 2) hx hb dX12_lacks_45 (by decide +kernel) ?_
        refine lv_goto (tgt := 50) hx hb dX12_lacks_46 (by decide +kernel) ?_
        exact ro_iret hx hb hr hlocks hS dX12_lacks_50 (show (2 : Int32).toInt = 1 ∨ (2 : Int32).toInt = 2 ∨ (2 : Int32).toInt = 3 ∨ ((2 : Int32).toInt = 0 ∧ 0 ≤ n1.toInt ∧ n1.toInt ≤ 11) from by have h9 : (2 : Int32).toInt = 2 := (by decide +kernel); omega)
    · have f4 := mt (ti_eq (a := x3.toInt) (b := s1.toInt) rfl rfl).mpr c4
      refine lv_iconst (v := 3) hx hb dX12_lacks_23 (by decide +kernel) ?_
      refine lv_goto (tgt := 50) hx hb dX12_lacks_24 (by decide +kernel) ?_
      exact ro_iret hx hb hr hlocks hS dX12_lacks_50 (show (3 : Int32).toInt = 1 ∨ (3 : Int32).toInt = 2 ∨ (3 : Int32).toInt = 3 ∨ ((3 : Int32).toInt = 0 ∧ 0 ≤ n1.toInt ∧ n1.toInt ≤ 11) from by have h9 : (3 : Int32).toInt = 3 := (by decide +kernel); omega)
  · have f2 := (ti_eq (a := x1.toInt) (b := 0) rfl (by decide +kernel)).mp c2
    refine lv_iconst (v := 1) hx hb dX12_lacks_9 (by decide +kernel) ?_
    refine lv_goto (tgt := 50) hx hb dX12_lacks_10 (by decide +kernel) ?_
    exact ro_iret hx hb hr hlocks hS dX12_lacks_50 (show (1 : Int32).toInt = 1 ∨ (1 : Int32).toInt = 2 ∨ (1 : Int32).toInt = 3 ∨ ((1 : Int32).toInt = 0 ∧ 0 ≤ n1.toInt ∧ n1.toInt ≤ 11) from by have h9 : (1 : Int32).toInt = 1 := (by decide +kernel); omega)

def wm_X12_cut : List Cond := .code yX12_cut cX12_cut 4 (some .long) :: (([.constant RX12 439 (2147483647), .constant RX12 440 (2139095040), .constantLong RX12 441 (2143289344)] : List Cond))
set_option maxHeartbeats 4000000 in
set_option maxRecDepth 100000 in
theorem c_X12_cut (l : Launch) (D : va_G) (sz : Nat) (s1 : Int32) (v : Int64) : Met l yX12_cut wm_X12_cut ({ frames := 0, cells := 0, slots := 0, locals := 0 }) (va_Pc [.int s1, .long v] (pA D sz [] [])) (va_Ql (fun (_ : Int64) (_ : Unit) => True) oA (ro sz)) 0 0 (ro sz) := by
  refine Met.ofW (cc := cX12_cut) (maxL := 4) (ret := (some .long)) (by decide +kernel) rfl ?_
  intro p e s m args below meth c s₁ B hml hv
  obtain ⟨rfl, hsz, hP, hK⟩ := hv
  have hx := B.exec
  have hb := B.bytes
  have hr := B.returns
  have hts := atoms_spec (ws := wm_X12_cut) B.pre
  have hown : s.vm.findClass RX12 = some m.cls := findClass_of_methodNamed B.named
  have hlocks := B.notSynchronized
  subst hsz
  have hA : ∀ q : Nat, s.heap.size ≤ q → ro s.heap.size q := fun _ h => h
  have hS : va_S (ro s.heap.size) s.heap s.heap [] := va_S.rf
  have hP : va_P D vwCl [] s.heap := hP
  have hl := lv_entry ([.int s1, .long v]) (n := 4) (Nat.le_of_ble_eq_true rfl)
  rw [lg_entry_eq]
  generalize (lg_sl ([.int s1, .long v]) ++ List.replicate (4 - (lg_sl ([.int s1, .long v])).length) Slot.unset).toArray = ls at hl ⊢
  have hl : lv_has ls 4 [(0, .int s1), (1, .long v)] := hl
  refine lv_iload_n hx hb dX12_cut_0 rfl (lv_at hl 0 rfl) ?_
  refine lv_if_ne (tgt := 9) hx hb dX12_cut_1 (by decide +kernel) (fun c1 => ?_) (fun c1 => ?_)
  · have f1 := mt (ti_eq (a := s1.toInt) (b := 0) rfl (by decide +kernel)).mpr c1
    refine lv_iload_n hx hb dX12_cut_9 rfl (lv_at hl 0 rfl) ?_
    refine lv_iconst (v := 1) hx hb dX12_cut_10 (by decide +kernel) ?_
    refine lv_icmp_ne (tgt := 18) hx hb dX12_cut_11 (by decide +kernel) (fun c2 => ?_) (fun c2 => ?_)
    · have f2 := mt (ti_eq (a := s1.toInt) (b := 1) rfl (by decide +kernel)).mpr c2
      refine lv_iload_n hx hb dX12_cut_18 rfl (lv_at hl 0 rfl) ?_
      refine lv_iconst (v := 2) hx hb dX12_cut_19 (by decide +kernel) ?_
      refine lv_icmp_ne (tgt := 46) hx hb dX12_cut_20 (by decide +kernel) (fun c3 => ?_) (fun c3 => ?_)
      · have f3 := mt (ti_eq (a := s1.toInt) (b := 2) rfl (by decide +kernel)).mpr c3
        refine lv_lload_n hx hb dX12_cut_46 rfl (lv_at hl 1 rfl) ?_
        exact ro_lret hx hb hr hlocks hS dX12_cut_47 trivial
      · have f3 := (ti_eq (a := s1.toInt) (b := 2) rfl (by decide +kernel)).mp c3
        refine lv_lload_n hx hb dX12_cut_23 rfl (lv_at hl 1 rfl) ?_
        refine lv_l2i (v := v.toInt32) hx hb dX12_cut_24 rfl ?_
        refine lv_topi (fun x4 ex4 => ?_)
        refine lv_istore_n (lv' := [(3, .int x4), (0, .int s1), (1, .long v)]) hx hb dX12_cut_25 rfl hl (by decide +kernel) rfl (fun ls hl => ?_)
        refine lv_iload_n hx hb dX12_cut_26 rfl (lv_at hl 0 rfl) ?_
        refine lv_ldcw (v := 2147483647) hx hb hown (hts (.constant RX12 439 (2147483647)) (List.mem_cons_of_mem _ (List.mem_of_getElem? (i := 0) rfl))) dX12_cut_27 ?_
        refine lv_iand hx hb dX12_cut_30 ?_
        refine lv_topi (fun x5 ex5 => ?_)
        refine lv_ldcw (v := 2139095040) hx hb hown (hts (.constant RX12 440 (2139095040)) (List.mem_cons_of_mem _ (List.mem_of_getElem? (i := 1) rfl))) dX12_cut_31 ?_
        refine lv_icmp_le (tgt := 43) hx hb dX12_cut_34 (by decide +kernel) (fun c6 => ?_) (fun c6 => ?_)
        · have f6 := (ti_le (a := x5.toInt) (b := 2139095040) rfl (by decide +kernel)).mp c6
          refine lv_iload_n hx hb dX12_cut_43 rfl (lv_at hl 0 rfl) ?_
          refine lv_i2l (v := x4.toInt64) hx hb dX12_cut_44 rfl ?_
          exact ro_lret hx hb hr hlocks hS dX12_cut_45 trivial
        · have f6 := mt (ti_le (a := x5.toInt) (b := 2139095040) rfl (by decide +kernel)).mpr c6
          refine lv_ldc2 (v := 2143289344) hx hb hown (hts (.constantLong RX12 441 (2143289344)) (List.mem_cons_of_mem _ (List.mem_of_getElem? (i := 2) rfl))) dX12_cut_37 ?_
          refine lv_goto (tgt := 45) hx hb dX12_cut_40 (by decide +kernel) ?_
          exact ro_lret hx hb hr hlocks hS dX12_cut_45 trivial
    · have f2 := (ti_eq (a := s1.toInt) (b := 1) rfl (by decide +kernel)).mp c2
      refine lv_lload_n hx hb dX12_cut_14 rfl (lv_at hl 1 rfl) ?_
      refine lv_l2i (v := v.toInt32) hx hb dX12_cut_15 rfl ?_
      refine lv_topi (fun x7 ex7 => ?_)
      refine lv_i2l (v := x7.toInt64) hx hb dX12_cut_16 rfl ?_
      exact ro_lret hx hb hr hlocks hS dX12_cut_17 trivial
  · have f1 := (ti_eq (a := s1.toInt) (b := 0) rfl (by decide +kernel)).mp c1
    refine lv_lload_n hx hb dX12_cut_4 rfl (lv_at hl 1 rfl) ?_
    refine lv_l2i (v := v.toInt32) hx hb dX12_cut_5 rfl ?_
    refine lv_topi (fun x8 ex8 => ?_)
    refine lv_i2b (v := x8.toInt8.toInt32) hx hb dX12_cut_6 rfl ?_
    refine lv_topi (fun x9 ex9 => ?_)
    refine lv_i2l (v := x9.toInt64) hx hb dX12_cut_7 rfl ?_
    exact ro_lret hx hb hr hlocks hS dX12_cut_8 trivial

def wm_X12_put : List Cond := .code yX12_put cX12_put 7 (some .int) :: ((([.methodLink RX12 180 yX12_isObject, .instanceMethod yX12_isObject, .selects RX12 yX12_isObject yX12_isObject, .initialized RX12, .code yX12_isObject cX12_isObject 2 (some .boolean), .fieldLink RX12 177 "TalePlayModel" "objects" "I", .methodLink RX12 166 yX12_in, .static yX12_in, .code yX12_in cX12_in 6 (some .boolean), .constantLong RX12 279 (3), .methodLink RX12 443 yX12_lacks, .instanceMethod yX12_lacks, .selects RX12 yX12_lacks yX12_lacks, .code yX12_lacks cX12_lacks 4 (some .int), .fieldLink RX12 136 "TalePlayModel" "hasLine" "[Z", .fieldLink RX12 126 "TalePlayModel" "lineSort" "[I"] : List Cond) ++ ([.fieldLink RX12 129 "TalePlayModel" "lineMany" "[I", .fieldLink RX12 132 "TalePlayModel" "items" "[J", .methodLink RX12 446 yX12_cut, .static yX12_cut, .code yX12_cut cX12_cut 4 (some .long), .constant RX12 439 (2147483647), .constant RX12 440 (2139095040), .constantLong RX12 441 (2143289344), .methodLink RX12 233 yX12_meets, .instanceMethod yX12_meets, .selects RX12 yX12_meets yX12_meets, .code yX12_meets cX12_meets 2 (some .int), .fieldLink RX12 161 "TalePlayModel" "latest" "I", .fieldLink RX12 7 "TalePlayModel" "came" "[I"] : List Cond)) ++ wsX120)
set_option maxRecDepth 20000 in
theorem gm_X12_put_X12_isObject : GoodIn wm_X12_put (wsV RX12 180 RX12 yX12_isObject wm_X12_isObject) := goodIn_w (List.forall_mem_append.mpr ⟨List.forall_mem_cons.mpr ⟨List.mem_cons_of_mem _ (List.mem_append_left _ (List.mem_append_left _ (List.mem_of_getElem? (i := 0) rfl))), List.forall_mem_cons.mpr ⟨List.mem_cons_of_mem _ (List.mem_append_left _ (List.mem_append_left _ (List.mem_of_getElem? (i := 1) rfl))), List.forall_mem_cons.mpr ⟨List.mem_cons_of_mem _ (List.mem_append_left _ (List.mem_append_left _ (List.mem_of_getElem? (i := 2) rfl))), List.forall_mem_cons.mpr ⟨List.mem_cons_of_mem _ (List.mem_append_left _ (List.mem_append_left _ (List.mem_of_getElem? (i := 3) rfl))), (fun _ h => absurd h List.not_mem_nil)⟩⟩⟩⟩, List.forall_mem_cons.mpr ⟨List.mem_cons_of_mem _ (List.mem_append_left _ (List.mem_append_left _ (List.mem_of_getElem? (i := 4) rfl))), List.forall_mem_append.mpr ⟨List.forall_mem_cons.mpr ⟨List.mem_cons_of_mem _ (List.mem_append_left _ (List.mem_append_left _ (List.mem_of_getElem? (i := 5) rfl))), List.forall_mem_cons.mpr ⟨List.mem_cons_of_mem _ (List.mem_append_left _ (List.mem_append_left _ (List.mem_of_getElem? (i := 6) rfl))), List.forall_mem_cons.mpr ⟨List.mem_cons_of_mem _ (List.mem_append_left _ (List.mem_append_left _ (List.mem_of_getElem? (i := 7) rfl))), List.forall_mem_cons.mpr ⟨List.mem_cons_of_mem _ (List.mem_append_left _ (List.mem_append_left _ (List.mem_of_getElem? (i := 3) rfl))), List.forall_mem_cons.mpr ⟨List.mem_cons_of_mem _ (List.mem_append_left _ (List.mem_append_left _ (List.mem_of_getElem? (i := 8) rfl))), (fun _ h => absurd h List.not_mem_nil)⟩⟩⟩⟩⟩, (fun _ h => List.mem_cons_of_mem _ (List.mem_append_right _ h))⟩⟩⟩) (by decide +kernel)
set_option maxRecDepth 20000 in
theorem gm_X12_put_X12_in : GoodIn wm_X12_put (va_wsS RX12 166 yX12_in wm_X12_in) := goodIn_w (List.forall_mem_append.mpr ⟨List.forall_mem_cons.mpr ⟨List.mem_cons_of_mem _ (List.mem_append_left _ (List.mem_append_left _ (List.mem_of_getElem? (i := 6) rfl))), List.forall_mem_cons.mpr ⟨List.mem_cons_of_mem _ (List.mem_append_left _ (List.mem_append_left _ (List.mem_of_getElem? (i := 7) rfl))), List.forall_mem_cons.mpr ⟨List.mem_cons_of_mem _ (List.mem_append_left _ (List.mem_append_left _ (List.mem_of_getElem? (i := 3) rfl))), (fun _ h => absurd h List.not_mem_nil)⟩⟩⟩, List.forall_mem_cons.mpr ⟨List.mem_cons_of_mem _ (List.mem_append_left _ (List.mem_append_left _ (List.mem_of_getElem? (i := 8) rfl))), (fun _ h => absurd h List.not_mem_nil)⟩⟩) (by decide +kernel)
set_option maxRecDepth 20000 in
theorem gm_X12_put_X12_lacks : GoodIn wm_X12_put (wsV RX12 443 RX12 yX12_lacks wm_X12_lacks) := goodIn_w (List.forall_mem_append.mpr ⟨List.forall_mem_cons.mpr ⟨List.mem_cons_of_mem _ (List.mem_append_left _ (List.mem_append_left _ (List.mem_of_getElem? (i := 10) rfl))), List.forall_mem_cons.mpr ⟨List.mem_cons_of_mem _ (List.mem_append_left _ (List.mem_append_left _ (List.mem_of_getElem? (i := 11) rfl))), List.forall_mem_cons.mpr ⟨List.mem_cons_of_mem _ (List.mem_append_left _ (List.mem_append_left _ (List.mem_of_getElem? (i := 12) rfl))), List.forall_mem_cons.mpr ⟨List.mem_cons_of_mem _ (List.mem_append_left _ (List.mem_append_left _ (List.mem_of_getElem? (i := 3) rfl))), (fun _ h => absurd h List.not_mem_nil)⟩⟩⟩⟩, List.forall_mem_cons.mpr ⟨List.mem_cons_of_mem _ (List.mem_append_left _ (List.mem_append_left _ (List.mem_of_getElem? (i := 13) rfl))), List.forall_mem_append.mpr ⟨List.forall_mem_cons.mpr ⟨List.mem_cons_of_mem _ (List.mem_append_left _ (List.mem_append_left _ (List.mem_of_getElem? (i := 14) rfl))), List.forall_mem_cons.mpr ⟨List.mem_cons_of_mem _ (List.mem_append_left _ (List.mem_append_left _ (List.mem_of_getElem? (i := 15) rfl))), List.forall_mem_cons.mpr ⟨List.mem_cons_of_mem _ (List.mem_append_left _ (List.mem_append_right _ (List.mem_of_getElem? (i := 0) rfl))), List.forall_mem_cons.mpr ⟨List.mem_cons_of_mem _ (List.mem_append_left _ (List.mem_append_left _ (List.mem_of_getElem? (i := 6) rfl))), List.forall_mem_cons.mpr ⟨List.mem_cons_of_mem _ (List.mem_append_left _ (List.mem_append_left _ (List.mem_of_getElem? (i := 7) rfl))), List.forall_mem_cons.mpr ⟨List.mem_cons_of_mem _ (List.mem_append_left _ (List.mem_append_left _ (List.mem_of_getElem? (i := 3) rfl))), List.forall_mem_cons.mpr ⟨List.mem_cons_of_mem _ (List.mem_append_left _ (List.mem_append_left _ (List.mem_of_getElem? (i := 8) rfl))), (fun _ h => absurd h List.not_mem_nil)⟩⟩⟩⟩⟩⟩⟩, (fun _ h => List.mem_cons_of_mem _ (List.mem_append_right _ h))⟩⟩⟩) (by decide +kernel)
set_option maxRecDepth 20000 in
theorem gm_X12_put_X12_cut : GoodIn wm_X12_put (va_wsS RX12 446 yX12_cut wm_X12_cut) := goodIn_w (List.forall_mem_append.mpr ⟨List.forall_mem_cons.mpr ⟨List.mem_cons_of_mem _ (List.mem_append_left _ (List.mem_append_right _ (List.mem_of_getElem? (i := 2) rfl))), List.forall_mem_cons.mpr ⟨List.mem_cons_of_mem _ (List.mem_append_left _ (List.mem_append_right _ (List.mem_of_getElem? (i := 3) rfl))), List.forall_mem_cons.mpr ⟨List.mem_cons_of_mem _ (List.mem_append_left _ (List.mem_append_left _ (List.mem_of_getElem? (i := 3) rfl))), (fun _ h => absurd h List.not_mem_nil)⟩⟩⟩, List.forall_mem_cons.mpr ⟨List.mem_cons_of_mem _ (List.mem_append_left _ (List.mem_append_right _ (List.mem_of_getElem? (i := 4) rfl))), List.forall_mem_cons.mpr ⟨List.mem_cons_of_mem _ (List.mem_append_left _ (List.mem_append_right _ (List.mem_of_getElem? (i := 5) rfl))), List.forall_mem_cons.mpr ⟨List.mem_cons_of_mem _ (List.mem_append_left _ (List.mem_append_right _ (List.mem_of_getElem? (i := 6) rfl))), List.forall_mem_cons.mpr ⟨List.mem_cons_of_mem _ (List.mem_append_left _ (List.mem_append_right _ (List.mem_of_getElem? (i := 7) rfl))), (fun _ h => absurd h List.not_mem_nil)⟩⟩⟩⟩⟩) (by decide +kernel)
set_option maxRecDepth 20000 in
theorem gm_X12_put_X12_meets : GoodIn wm_X12_put (wsV RX12 233 RX12 yX12_meets wm_X12_meets) := goodIn_w (List.forall_mem_append.mpr ⟨List.forall_mem_cons.mpr ⟨List.mem_cons_of_mem _ (List.mem_append_left _ (List.mem_append_right _ (List.mem_of_getElem? (i := 8) rfl))), List.forall_mem_cons.mpr ⟨List.mem_cons_of_mem _ (List.mem_append_left _ (List.mem_append_right _ (List.mem_of_getElem? (i := 9) rfl))), List.forall_mem_cons.mpr ⟨List.mem_cons_of_mem _ (List.mem_append_left _ (List.mem_append_right _ (List.mem_of_getElem? (i := 10) rfl))), List.forall_mem_cons.mpr ⟨List.mem_cons_of_mem _ (List.mem_append_left _ (List.mem_append_left _ (List.mem_of_getElem? (i := 3) rfl))), (fun _ h => absurd h List.not_mem_nil)⟩⟩⟩⟩, List.forall_mem_cons.mpr ⟨List.mem_cons_of_mem _ (List.mem_append_left _ (List.mem_append_right _ (List.mem_of_getElem? (i := 11) rfl))), List.forall_mem_append.mpr ⟨List.forall_mem_cons.mpr ⟨List.mem_cons_of_mem _ (List.mem_append_left _ (List.mem_append_right _ (List.mem_of_getElem? (i := 12) rfl))), List.forall_mem_cons.mpr ⟨List.mem_cons_of_mem _ (List.mem_append_left _ (List.mem_append_right _ (List.mem_of_getElem? (i := 13) rfl))), (fun _ h => absurd h List.not_mem_nil)⟩⟩, (fun _ h => List.mem_cons_of_mem _ (List.mem_append_right _ h))⟩⟩⟩) (by decide +kernel)
set_option maxHeartbeats 4000000 in
set_option maxRecDepth 100000 in
theorem s_X12_put (l : Launch) (D : va_G) (sz : Nat) (o : Nat) (a : Nat → Nat) (t : Nat → ClassId) (i : Nat → Int32) (q : Int64) (c : Nat → Nat → Int32) (d : Nat → Nat → Int64) (w : Int32) (s1 : Int32) (n1 : Int32) (v1 : Int64) (hI : mInv i c) : Met l yX12_put wm_X12_put ({ frames := 2, cells := 0, slots := 0, locals := 48 }) (va_Pc [.ref o, .int w, .int s1, .int n1, .long v1] (pB D sz (mW o a t i q c d) (mT t))) (va_Qi (fun (r : Int32) (u : MS) => True ∧ mInv u.1 u.2.2.1 ∧ (∀ k, k ∉ ([0] : List Nat) → u.1 k = i k) ∧ (∀ k, k ∉ ([1] : List Nat) → u.2.2.1 k = c k)) (oC D (va_A (mW o a t i q c d) sz) (fun u : MS => mW o a t u.1 u.2.1 u.2.2.1 u.2.2.2) (fun _ => [])) (va_A (mW o a t i q c d) sz)) 0 0 (va_A (mW o a t i q c d) sz) := by
  refine Met.ofW (cc := cX12_put) (maxL := 7) (ret := (some .int)) (by decide +kernel) rfl ?_
  intro p e s m args below meth cd s₁ B hml hv
  obtain ⟨rfl, hsz, hP, hK, hD0⟩ := hv
  have hx := B.exec
  have hb := B.bytes
  have hr := B.returns
  have hts := atoms_spec (ws := wm_X12_put) B.pre
  have hown : s.vm.findClass RX12 = some m.cls := findClass_of_methodNamed B.named
  have hlocks := B.notSynchronized
  subst hsz
  have hD := hD0.self (sz := s.heap.size)
  generalize hAe : va_A (mW o a t i q c d) s.heap.size = A at hD ⊢
  have hA : ∀ q : Nat, s.heap.size ≤ q → A q := fun q h => by rw [← hAe]; exact Or.inr h
  have hS : va_S A s.heap s.heap [] := va_S.rf
  have hfi : ∀ k, k ∉ ([] : List Nat) → i k = i k := fun _ _ => rfl
  have hfc : ∀ k, k ∉ ([] : List Nat) → c k = c k := fun _ _ => rfl
  have hl := lv_entry ([.ref o, .int w, .int s1, .int n1, .long v1]) (n := 7) (Nat.le_of_ble_eq_true rfl)
  rw [lg_entry_eq]
  generalize (lg_sl ([.ref o, .int w, .int s1, .int n1, .long v1]) ++ List.replicate (7 - (lg_sl ([.ref o, .int w, .int s1, .int n1, .long v1])).length) Slot.unset).toArray = ls at hl ⊢
  have hl : lv_has ls 7 [(0, .ref o), (1, .int w), (2, .int s1), (3, .int n1), (4, .long v1)] := hl
  refine lv_aload_n hx hb dX12_put_0 rfl (lv_at hl 0 rfl) ?_
  refine lv_iload_n hx hb dX12_put_1 rfl (lv_at hl 1 rfl) ?_
  have rb5_i : 0 ≤ (i 5).toInt ∧ (i 5).toInt ≤ 30 := hI.1 5
  refine ro_calli (va_runV (As := [.int w]) (rest := []) ⟨hx, hb, hml, hown, hts⟩ (s_X12_isObject l D s.heap.size o a t i q c d w hI ) (cwV 1 hts gm_X12_put_X12_isObject rfl rfl rfl (by decide +kernel) ⟨Nat.le_of_ble_eq_true rfl, Nat.le_of_ble_eq_true rfl⟩) (pA_V hK hP (ci := 12) (q0 := 0) rfl rfl) rfl rfl hl.1 rfl (lv_room (Nat.le_of_ble_eq_true rfl)) dX12_put_2 ⟨Nat.le_of_ble_eq_true rfl, Nat.le_of_ble_eq_true rfl⟩) hS hA hP (fun r1 u1 H locs hw1 hP hS => ?_)
  have hw1 : r1 = if (0 ≤ w.toInt ∧ w.toInt ≤ (i 5).toInt - 1) then 1 else 0 := hw1
  refine lv_if_eq (tgt := 20) hx hb dX12_put_5 (by decide +kernel) (fun c2 => ?_) (fun c2 => ?_)
  · have f2 := fl_f hw1 c2
    refine lv_iconst (v := (-1)) hx hb dX12_put_20 (by decide +kernel) ?_
    exact rw_iret (i, q, c, d) hx hb hr hlocks hS (hK.sub (tys' := []) [] rfl) hP hD dX12_put_21 ⟨trivial, hI, fr_w hfi (by decide +kernel), fr_w hfc (by decide +kernel)⟩
  · have f2 := fl_t hw1 c2
    refine lv_iload_n hx hb dX12_put_8 rfl (lv_at hl 2 rfl) ?_
    refine lv_i2l (v := s1.toInt64) hx hb dX12_put_9 rfl ?_
    refine lv_lconst (v := 0) hx hb dX12_put_10 (by decide +kernel) ?_
    refine lv_ldc2 (v := 3) hx hb hown (hts (.constantLong RX12 279 (3)) (List.mem_cons_of_mem _ (List.mem_append_left _ (List.mem_append_left _ (List.mem_of_getElem? (i := 9) rfl))))) dX12_put_11 ?_
    have hPc := hP.sub (ws' := []) [] rfl
    have hKc := hK.sub (tys' := []) [] rfl
    refine ro_calli (va_runS (As := [.long s1.toInt64, .long 0, .long 3]) (rest := []) ⟨hx, hb, hml, hown, hts⟩ (c_X12_in l D H.size s1.toInt64 0 3 s1.toInt 0 3 ((Int32.toInt_toInt64 s1).trans rfl) (by decide +kernel) (by decide +kernel)) (va_cwS 3 hts gm_X12_put_X12_in rfl rfl rfl (by decide +kernel) ⟨Nat.le_of_ble_eq_true rfl, Nat.le_of_ble_eq_true rfl⟩) (pA_S hKc hPc) rfl rfl hl.1 rfl (lv_room (Nat.le_of_ble_eq_true rfl)) dX12_put_14 ⟨Nat.le_of_ble_eq_true rfl, Nat.le_of_ble_eq_true rfl⟩) hS hA hP (fun r3 u3 H locs hw3 hP hS => ?_)
    have hw3 : r3 = if (0 ≤ s1.toInt ∧ s1.toInt ≤ 3) then 1 else 0 := hw3
    refine lv_if_ne (tgt := 22) hx hb dX12_put_17 (by decide +kernel) (fun c4 => ?_) (fun c4 => ?_)
    · have f4 := fl_t hw3 c4
      refine lv_aload_n hx hb dX12_put_22 rfl (lv_at hl 0 rfl) ?_
      refine lv_iload_n hx hb dX12_put_23 rfl (lv_at hl 1 rfl) ?_
      refine lv_iload_n hx hb dX12_put_24 rfl (lv_at hl 2 rfl) ?_
      refine lv_iload_n hx hb dX12_put_25 rfl (lv_at hl 3 rfl) ?_
      refine ro_calli (va_runV (As := [.int w, .int s1, .int n1]) (rest := []) ⟨hx, hb, hml, hown, hts⟩ (s_X12_lacks l D H.size o a t i q c d w s1 n1 hI (show 0 ≤ w.toInt ∧ w.toInt ≤ 29 from by omega)) (cwV 3 hts gm_X12_put_X12_lacks rfl rfl rfl (by decide +kernel) ⟨Nat.le_of_ble_eq_true rfl, Nat.le_of_ble_eq_true rfl⟩) (pA_V hK hP (ci := 12) (q0 := 0) rfl rfl) rfl rfl hl.1 rfl (lv_room (Nat.le_of_ble_eq_true rfl)) dX12_put_26 ⟨Nat.le_of_ble_eq_true rfl, Nat.le_of_ble_eq_true rfl⟩) hS hA hP (fun r5 u5 H locs hw5 hP hS => ?_)
      have hw5 : (r5.toInt = 1 ∨ r5.toInt = 2 ∨ r5.toInt = 3 ∨ (r5.toInt = 0 ∧ 0 ≤ n1.toInt ∧ n1.toInt ≤ 11)) := hw5
      refine lv_istore (lv' := [(6, .int r5), (0, .ref o), (1, .int w), (2, .int s1), (3, .int n1), (4, .long v1)]) hx hb dX12_put_29 hl (by decide +kernel) rfl (fun ls hl => ?_)
      refine lv_iload hx hb dX12_put_31 (lv_at hl 0 rfl) ?_
      refine lv_if_le (tgt := 43) hx hb dX12_put_33 (by decide +kernel) (fun c6 => ?_) (fun c6 => ?_)
      · have f6 := (ti_le (a := r5.toInt) (b := 0) rfl (by decide +kernel)).mp c6
        refine lv_aload_n hx hb dX12_put_43 rfl (lv_at hl 1 rfl) ?_
        refine mget_62 hx hb hts (fun _ h => List.mem_cons_of_mem _ (List.mem_append_right _ h)) hown hK hP (hts (.fieldLink RX12 132 "TalePlayModel" "items" "[J") (List.mem_cons_of_mem _ (List.mem_append_left _ (List.mem_append_right _ (List.mem_of_getElem? (i := 1) rfl))))) dX12_put_44 ?_
        refine lv_bipush (v := 12) hx hb dX12_put_47 (by decide +kernel) ?_
        refine lv_iload_n hx hb dX12_put_49 rfl (lv_at hl 2 rfl) ?_
        refine lv_imul hx hb dX12_put_50 ?_
        refine lv_topi (fun x7 ex7 => ?_)
        have tx7 := ti_mul (a := 12) (b := w.toInt) ex7 (by decide +kernel) rfl (by omega) (by omega)
        refine lv_iload_n hx hb dX12_put_51 rfl (lv_at hl 4 rfl) ?_
        refine lv_iadd hx hb dX12_put_52 ?_
        refine lv_topi (fun x8 ex8 => ?_)
        have tx8 := ti_add (a := (12 * w.toInt)) (b := n1.toInt) ex8 tx7 rfl (by omega) (by omega)
        refine lv_iload_n hx hb dX12_put_53 rfl (lv_at hl 3 rfl) ?_
        refine lv_lload hx hb dX12_put_54 (lv_at hl 5 rfl) ?_
        have hPc := hP.sub (ws' := []) [] rfl
        have hKc := hK.sub (tys' := []) [] rfl
        refine ro_calll (va_runS (As := [.int s1, .long v1]) (rest := [.int x8, .ref (a 62)]) ⟨hx, hb, hml, hown, hts⟩ (c_X12_cut l D H.size s1 v1) (va_cwS 2 hts gm_X12_put_X12_cut rfl rfl rfl (by decide +kernel) ⟨Nat.le_of_ble_eq_true rfl, Nat.le_of_ble_eq_true rfl⟩) (pA_S hKc hPc) rfl rfl hl.1 rfl (lv_room (Nat.le_of_ble_eq_true rfl)) dX12_put_56 ⟨Nat.le_of_ble_eq_true rfl, Nat.le_of_ble_eq_true rfl⟩) hS hA hP (fun r9 u9 H locs hw9 hP hS => ?_)
        refine mst_62 hx hb hK hP hD hS (vp_in_iff.mpr (by have h9 : x8.toInt = ((12 * w.toInt) + n1.toInt) := tx8; omega)) dX12_put_59 (fun H locs hP hD hS => ?_)
        refine lv_iconst (v := 1) hx hb dX12_put_60 (by decide +kernel) ?_
        exact rw_iret (i, q, c, (updD d 62 (x8 : Int32).toNatClampNeg r9)) hx hb hr hlocks hS (hK.sub (tys' := []) [] rfl) hP hD dX12_put_61 ⟨trivial, hI, fr_w hfi (by decide +kernel), fr_w hfc (by decide +kernel)⟩
      · have f6 := mt (ti_le (a := r5.toInt) (b := 0) rfl (by decide +kernel)).mpr c6
        refine lv_aload_n hx hb dX12_put_36 rfl (lv_at hl 1 rfl) ?_
        refine lv_iload hx hb dX12_put_37 (lv_at hl 0 rfl) ?_
        refine al_calli (va_runV (As := [.int r5]) (rest := []) ⟨hx, hb, hml, hown, hts⟩ (s_X12_meets l D H.size o a t i q c d r5 hI (show 1 ≤ r5.toInt ∧ r5.toInt ≤ 6 from by omega)) (cwV 1 hts gm_X12_put_X12_meets rfl rfl rfl (by decide +kernel) ⟨Nat.le_of_ble_eq_true rfl, Nat.le_of_ble_eq_true rfl⟩) (pB_V hK hP hD (ci := 12) (q0 := 0) rfl rfl) rfl rfl hl.1 rfl (lv_room (Nat.le_of_ble_eq_true rfl)) dX12_put_39 ⟨Nat.le_of_ble_eq_true rfl, Nat.le_of_ble_eq_true rfl⟩) hS hA hP hD (fun r10 u10 H locs hw10 hP hD hS => ?_)
        obtain ⟨i10, q10, c10, d10⟩ := u10
        have hw10 : r10 = (-3) ∧ mInv i10 c10 ∧ (∀ k, k ∉ ([0] : List Nat) → i10 k = i k) ∧ (∀ k, k ∉ ([1] : List Nat) → c10 k = c k) := hw10
        obtain ⟨hw10, hI, hei10, hec10⟩ := hw10
        have hfi : ∀ k, k ∉ ([0] : List Nat) → i10 k = i k := fr_z hfi hei10 (by decide +kernel) (by decide +kernel)
        have hfc : ∀ k, k ∉ ([1] : List Nat) → c10 k = c k := fr_z hfc hec10 (by decide +kernel) (by decide +kernel)
        have hP : va_P D vwCl (mW o a t i10 q10 c10 d10) H := hP
        have hD : va_D A (mW o a t i10 q10 c10 d10) := hD
        have hw10 : r10 = (-3) := hw10
        subst hw10
        exact rw_iret (i10, q10, c10, d10) hx hb hr hlocks hS (hK.sub (tys' := []) [] rfl) hP hD dX12_put_42 ⟨trivial, hI, fr_w hfi (by decide +kernel), fr_w hfc (by decide +kernel)⟩
    · have f4 := fl_f hw3 c4
      refine lv_iconst (v := (-1)) hx hb dX12_put_20 (by decide +kernel) ?_
      exact rw_iret (i, q, c, d) hx hb hr hlocks hS (hK.sub (tys' := []) [] rfl) hP hD dX12_put_21 ⟨trivial, hI, fr_w hfi (by decide +kernel), fr_w hfc (by decide +kernel)⟩

def wm_X12_item : List Cond := .code yX12_item cX12_item 5 (some .int) :: ((([.methodLink RX12 180 yX12_isObject, .instanceMethod yX12_isObject, .selects RX12 yX12_isObject yX12_isObject, .initialized RX12, .code yX12_isObject cX12_isObject 2 (some .boolean), .fieldLink RX12 177 "TalePlayModel" "objects" "I", .methodLink RX12 166 yX12_in, .static yX12_in, .code yX12_in cX12_in 6 (some .boolean), .constantLong RX12 279 (3), .methodLink RX12 443 yX12_lacks, .instanceMethod yX12_lacks, .selects RX12 yX12_lacks yX12_lacks, .code yX12_lacks cX12_lacks 4 (some .int), .fieldLink RX12 136 "TalePlayModel" "hasLine" "[Z", .fieldLink RX12 126 "TalePlayModel" "lineSort" "[I"] : List Cond) ++ ([.fieldLink RX12 129 "TalePlayModel" "lineMany" "[I", .fieldLink RX12 132 "TalePlayModel" "items" "[J", .fieldLink RX12 318 "TalePlayModel" "asked" "J", .methodLink RX12 233 yX12_meets, .instanceMethod yX12_meets, .selects RX12 yX12_meets yX12_meets, .code yX12_meets cX12_meets 2 (some .int), .fieldLink RX12 161 "TalePlayModel" "latest" "I", .fieldLink RX12 7 "TalePlayModel" "came" "[I"] : List Cond)) ++ wsX120)
set_option maxRecDepth 20000 in
theorem gm_X12_item_X12_isObject : GoodIn wm_X12_item (wsV RX12 180 RX12 yX12_isObject wm_X12_isObject) := goodIn_w (List.forall_mem_append.mpr ⟨List.forall_mem_cons.mpr ⟨List.mem_cons_of_mem _ (List.mem_append_left _ (List.mem_append_left _ (List.mem_of_getElem? (i := 0) rfl))), List.forall_mem_cons.mpr ⟨List.mem_cons_of_mem _ (List.mem_append_left _ (List.mem_append_left _ (List.mem_of_getElem? (i := 1) rfl))), List.forall_mem_cons.mpr ⟨List.mem_cons_of_mem _ (List.mem_append_left _ (List.mem_append_left _ (List.mem_of_getElem? (i := 2) rfl))), List.forall_mem_cons.mpr ⟨List.mem_cons_of_mem _ (List.mem_append_left _ (List.mem_append_left _ (List.mem_of_getElem? (i := 3) rfl))), (fun _ h => absurd h List.not_mem_nil)⟩⟩⟩⟩, List.forall_mem_cons.mpr ⟨List.mem_cons_of_mem _ (List.mem_append_left _ (List.mem_append_left _ (List.mem_of_getElem? (i := 4) rfl))), List.forall_mem_append.mpr ⟨List.forall_mem_cons.mpr ⟨List.mem_cons_of_mem _ (List.mem_append_left _ (List.mem_append_left _ (List.mem_of_getElem? (i := 5) rfl))), List.forall_mem_cons.mpr ⟨List.mem_cons_of_mem _ (List.mem_append_left _ (List.mem_append_left _ (List.mem_of_getElem? (i := 6) rfl))), List.forall_mem_cons.mpr ⟨List.mem_cons_of_mem _ (List.mem_append_left _ (List.mem_append_left _ (List.mem_of_getElem? (i := 7) rfl))), List.forall_mem_cons.mpr ⟨List.mem_cons_of_mem _ (List.mem_append_left _ (List.mem_append_left _ (List.mem_of_getElem? (i := 3) rfl))), List.forall_mem_cons.mpr ⟨List.mem_cons_of_mem _ (List.mem_append_left _ (List.mem_append_left _ (List.mem_of_getElem? (i := 8) rfl))), (fun _ h => absurd h List.not_mem_nil)⟩⟩⟩⟩⟩, (fun _ h => List.mem_cons_of_mem _ (List.mem_append_right _ h))⟩⟩⟩) (by decide +kernel)
set_option maxRecDepth 20000 in
theorem gm_X12_item_X12_in : GoodIn wm_X12_item (va_wsS RX12 166 yX12_in wm_X12_in) := goodIn_w (List.forall_mem_append.mpr ⟨List.forall_mem_cons.mpr ⟨List.mem_cons_of_mem _ (List.mem_append_left _ (List.mem_append_left _ (List.mem_of_getElem? (i := 6) rfl))), List.forall_mem_cons.mpr ⟨List.mem_cons_of_mem _ (List.mem_append_left _ (List.mem_append_left _ (List.mem_of_getElem? (i := 7) rfl))), List.forall_mem_cons.mpr ⟨List.mem_cons_of_mem _ (List.mem_append_left _ (List.mem_append_left _ (List.mem_of_getElem? (i := 3) rfl))), (fun _ h => absurd h List.not_mem_nil)⟩⟩⟩, List.forall_mem_cons.mpr ⟨List.mem_cons_of_mem _ (List.mem_append_left _ (List.mem_append_left _ (List.mem_of_getElem? (i := 8) rfl))), (fun _ h => absurd h List.not_mem_nil)⟩⟩) (by decide +kernel)
set_option maxRecDepth 20000 in
theorem gm_X12_item_X12_lacks : GoodIn wm_X12_item (wsV RX12 443 RX12 yX12_lacks wm_X12_lacks) := goodIn_w (List.forall_mem_append.mpr ⟨List.forall_mem_cons.mpr ⟨List.mem_cons_of_mem _ (List.mem_append_left _ (List.mem_append_left _ (List.mem_of_getElem? (i := 10) rfl))), List.forall_mem_cons.mpr ⟨List.mem_cons_of_mem _ (List.mem_append_left _ (List.mem_append_left _ (List.mem_of_getElem? (i := 11) rfl))), List.forall_mem_cons.mpr ⟨List.mem_cons_of_mem _ (List.mem_append_left _ (List.mem_append_left _ (List.mem_of_getElem? (i := 12) rfl))), List.forall_mem_cons.mpr ⟨List.mem_cons_of_mem _ (List.mem_append_left _ (List.mem_append_left _ (List.mem_of_getElem? (i := 3) rfl))), (fun _ h => absurd h List.not_mem_nil)⟩⟩⟩⟩, List.forall_mem_cons.mpr ⟨List.mem_cons_of_mem _ (List.mem_append_left _ (List.mem_append_left _ (List.mem_of_getElem? (i := 13) rfl))), List.forall_mem_append.mpr ⟨List.forall_mem_cons.mpr ⟨List.mem_cons_of_mem _ (List.mem_append_left _ (List.mem_append_left _ (List.mem_of_getElem? (i := 14) rfl))), List.forall_mem_cons.mpr ⟨List.mem_cons_of_mem _ (List.mem_append_left _ (List.mem_append_left _ (List.mem_of_getElem? (i := 15) rfl))), List.forall_mem_cons.mpr ⟨List.mem_cons_of_mem _ (List.mem_append_left _ (List.mem_append_right _ (List.mem_of_getElem? (i := 0) rfl))), List.forall_mem_cons.mpr ⟨List.mem_cons_of_mem _ (List.mem_append_left _ (List.mem_append_left _ (List.mem_of_getElem? (i := 6) rfl))), List.forall_mem_cons.mpr ⟨List.mem_cons_of_mem _ (List.mem_append_left _ (List.mem_append_left _ (List.mem_of_getElem? (i := 7) rfl))), List.forall_mem_cons.mpr ⟨List.mem_cons_of_mem _ (List.mem_append_left _ (List.mem_append_left _ (List.mem_of_getElem? (i := 3) rfl))), List.forall_mem_cons.mpr ⟨List.mem_cons_of_mem _ (List.mem_append_left _ (List.mem_append_left _ (List.mem_of_getElem? (i := 8) rfl))), (fun _ h => absurd h List.not_mem_nil)⟩⟩⟩⟩⟩⟩⟩, (fun _ h => List.mem_cons_of_mem _ (List.mem_append_right _ h))⟩⟩⟩) (by decide +kernel)
set_option maxRecDepth 20000 in
theorem gm_X12_item_X12_meets : GoodIn wm_X12_item (wsV RX12 233 RX12 yX12_meets wm_X12_meets) := goodIn_w (List.forall_mem_append.mpr ⟨List.forall_mem_cons.mpr ⟨List.mem_cons_of_mem _ (List.mem_append_left _ (List.mem_append_right _ (List.mem_of_getElem? (i := 3) rfl))), List.forall_mem_cons.mpr ⟨List.mem_cons_of_mem _ (List.mem_append_left _ (List.mem_append_right _ (List.mem_of_getElem? (i := 4) rfl))), List.forall_mem_cons.mpr ⟨List.mem_cons_of_mem _ (List.mem_append_left _ (List.mem_append_right _ (List.mem_of_getElem? (i := 5) rfl))), List.forall_mem_cons.mpr ⟨List.mem_cons_of_mem _ (List.mem_append_left _ (List.mem_append_left _ (List.mem_of_getElem? (i := 3) rfl))), (fun _ h => absurd h List.not_mem_nil)⟩⟩⟩⟩, List.forall_mem_cons.mpr ⟨List.mem_cons_of_mem _ (List.mem_append_left _ (List.mem_append_right _ (List.mem_of_getElem? (i := 6) rfl))), List.forall_mem_append.mpr ⟨List.forall_mem_cons.mpr ⟨List.mem_cons_of_mem _ (List.mem_append_left _ (List.mem_append_right _ (List.mem_of_getElem? (i := 7) rfl))), List.forall_mem_cons.mpr ⟨List.mem_cons_of_mem _ (List.mem_append_left _ (List.mem_append_right _ (List.mem_of_getElem? (i := 8) rfl))), (fun _ h => absurd h List.not_mem_nil)⟩⟩, (fun _ h => List.mem_cons_of_mem _ (List.mem_append_right _ h))⟩⟩⟩) (by decide +kernel)
set_option maxHeartbeats 4000000 in
set_option maxRecDepth 100000 in
theorem s_X12_item (l : Launch) (D : va_G) (sz : Nat) (o : Nat) (a : Nat → Nat) (t : Nat → ClassId) (i : Nat → Int32) (q : Int64) (c : Nat → Nat → Int32) (d : Nat → Nat → Int64) (w : Int32) (s1 : Int32) (n1 : Int32) (hI : mInv i c) : Met l yX12_item wm_X12_item ({ frames := 2, cells := 0, slots := 0, locals := 48 }) (va_Pc [.ref o, .int w, .int s1, .int n1] (pB D sz (mW o a t i q c d) (mT t))) (va_Qi (fun (r : Int32) (u : MS) => True ∧ mInv u.1 u.2.2.1 ∧ (∀ k, k ∉ ([0] : List Nat) → u.1 k = i k) ∧ (∀ k, k ∉ ([1] : List Nat) → u.2.2.1 k = c k)) (oC D (va_A (mW o a t i q c d) sz) (fun u : MS => mW o a t u.1 u.2.1 u.2.2.1 u.2.2.2) (fun _ => [])) (va_A (mW o a t i q c d) sz)) 0 0 (va_A (mW o a t i q c d) sz) := by
  refine Met.ofW (cc := cX12_item) (maxL := 5) (ret := (some .int)) (by decide +kernel) rfl ?_
  intro p e s m args below meth cd s₁ B hml hv
  obtain ⟨rfl, hsz, hP, hK, hD0⟩ := hv
  have hx := B.exec
  have hb := B.bytes
  have hr := B.returns
  have hts := atoms_spec (ws := wm_X12_item) B.pre
  have hown : s.vm.findClass RX12 = some m.cls := findClass_of_methodNamed B.named
  have hlocks := B.notSynchronized
  subst hsz
  have hD := hD0.self (sz := s.heap.size)
  generalize hAe : va_A (mW o a t i q c d) s.heap.size = A at hD ⊢
  have hA : ∀ q : Nat, s.heap.size ≤ q → A q := fun q h => by rw [← hAe]; exact Or.inr h
  have hS : va_S A s.heap s.heap [] := va_S.rf
  have hfi : ∀ k, k ∉ ([] : List Nat) → i k = i k := fun _ _ => rfl
  have hfc : ∀ k, k ∉ ([] : List Nat) → c k = c k := fun _ _ => rfl
  have hl := lv_entry ([.ref o, .int w, .int s1, .int n1]) (n := 5) (Nat.le_of_ble_eq_true rfl)
  rw [lg_entry_eq]
  generalize (lg_sl ([.ref o, .int w, .int s1, .int n1]) ++ List.replicate (5 - (lg_sl ([.ref o, .int w, .int s1, .int n1])).length) Slot.unset).toArray = ls at hl ⊢
  have hl : lv_has ls 5 [(0, .ref o), (1, .int w), (2, .int s1), (3, .int n1)] := hl
  refine lv_aload_n hx hb dX12_item_0 rfl (lv_at hl 0 rfl) ?_
  refine lv_iload_n hx hb dX12_item_1 rfl (lv_at hl 1 rfl) ?_
  have rb5_i : 0 ≤ (i 5).toInt ∧ (i 5).toInt ≤ 30 := hI.1 5
  refine ro_calli (va_runV (As := [.int w]) (rest := []) ⟨hx, hb, hml, hown, hts⟩ (s_X12_isObject l D s.heap.size o a t i q c d w hI ) (cwV 1 hts gm_X12_item_X12_isObject rfl rfl rfl (by decide +kernel) ⟨Nat.le_of_ble_eq_true rfl, Nat.le_of_ble_eq_true rfl⟩) (pA_V hK hP (ci := 12) (q0 := 0) rfl rfl) rfl rfl hl.1 rfl (lv_room (Nat.le_of_ble_eq_true rfl)) dX12_item_2 ⟨Nat.le_of_ble_eq_true rfl, Nat.le_of_ble_eq_true rfl⟩) hS hA hP (fun r1 u1 H locs hw1 hP hS => ?_)
  have hw1 : r1 = if (0 ≤ w.toInt ∧ w.toInt ≤ (i 5).toInt - 1) then 1 else 0 := hw1
  refine lv_if_eq (tgt := 20) hx hb dX12_item_5 (by decide +kernel) (fun c2 => ?_) (fun c2 => ?_)
  · have f2 := fl_f hw1 c2
    refine lv_iconst (v := (-1)) hx hb dX12_item_20 (by decide +kernel) ?_
    exact rw_iret (i, q, c, d) hx hb hr hlocks hS (hK.sub (tys' := []) [] rfl) hP hD dX12_item_21 ⟨trivial, hI, fr_w hfi (by decide +kernel), fr_w hfc (by decide +kernel)⟩
  · have f2 := fl_t hw1 c2
    refine lv_iload_n hx hb dX12_item_8 rfl (lv_at hl 2 rfl) ?_
    refine lv_i2l (v := s1.toInt64) hx hb dX12_item_9 rfl ?_
    refine lv_lconst (v := 0) hx hb dX12_item_10 (by decide +kernel) ?_
    refine lv_ldc2 (v := 3) hx hb hown (hts (.constantLong RX12 279 (3)) (List.mem_cons_of_mem _ (List.mem_append_left _ (List.mem_append_left _ (List.mem_of_getElem? (i := 9) rfl))))) dX12_item_11 ?_
    have hPc := hP.sub (ws' := []) [] rfl
    have hKc := hK.sub (tys' := []) [] rfl
    refine ro_calli (va_runS (As := [.long s1.toInt64, .long 0, .long 3]) (rest := []) ⟨hx, hb, hml, hown, hts⟩ (c_X12_in l D H.size s1.toInt64 0 3 s1.toInt 0 3 ((Int32.toInt_toInt64 s1).trans rfl) (by decide +kernel) (by decide +kernel)) (va_cwS 3 hts gm_X12_item_X12_in rfl rfl rfl (by decide +kernel) ⟨Nat.le_of_ble_eq_true rfl, Nat.le_of_ble_eq_true rfl⟩) (pA_S hKc hPc) rfl rfl hl.1 rfl (lv_room (Nat.le_of_ble_eq_true rfl)) dX12_item_14 ⟨Nat.le_of_ble_eq_true rfl, Nat.le_of_ble_eq_true rfl⟩) hS hA hP (fun r3 u3 H locs hw3 hP hS => ?_)
    have hw3 : r3 = if (0 ≤ s1.toInt ∧ s1.toInt ≤ 3) then 1 else 0 := hw3
    refine lv_if_ne (tgt := 22) hx hb dX12_item_17 (by decide +kernel) (fun c4 => ?_) (fun c4 => ?_)
    · have f4 := fl_t hw3 c4
      refine lv_aload_n hx hb dX12_item_22 rfl (lv_at hl 0 rfl) ?_
      refine lv_iload_n hx hb dX12_item_23 rfl (lv_at hl 1 rfl) ?_
      refine lv_iload_n hx hb dX12_item_24 rfl (lv_at hl 2 rfl) ?_
      refine lv_iload_n hx hb dX12_item_25 rfl (lv_at hl 3 rfl) ?_
      refine ro_calli (va_runV (As := [.int w, .int s1, .int n1]) (rest := []) ⟨hx, hb, hml, hown, hts⟩ (s_X12_lacks l D H.size o a t i q c d w s1 n1 hI (show 0 ≤ w.toInt ∧ w.toInt ≤ 29 from by omega)) (cwV 3 hts gm_X12_item_X12_lacks rfl rfl rfl (by decide +kernel) ⟨Nat.le_of_ble_eq_true rfl, Nat.le_of_ble_eq_true rfl⟩) (pA_V hK hP (ci := 12) (q0 := 0) rfl rfl) rfl rfl hl.1 rfl (lv_room (Nat.le_of_ble_eq_true rfl)) dX12_item_26 ⟨Nat.le_of_ble_eq_true rfl, Nat.le_of_ble_eq_true rfl⟩) hS hA hP (fun r5 u5 H locs hw5 hP hS => ?_)
      have hw5 : (r5.toInt = 1 ∨ r5.toInt = 2 ∨ r5.toInt = 3 ∨ (r5.toInt = 0 ∧ 0 ≤ n1.toInt ∧ n1.toInt ≤ 11)) := hw5
      refine lv_istore (lv' := [(4, .int r5), (0, .ref o), (1, .int w), (2, .int s1), (3, .int n1)]) hx hb dX12_item_29 hl (by decide +kernel) rfl (fun ls hl => ?_)
      refine lv_iload hx hb dX12_item_31 (lv_at hl 0 rfl) ?_
      refine lv_if_le (tgt := 43) hx hb dX12_item_33 (by decide +kernel) (fun c6 => ?_) (fun c6 => ?_)
      · have f6 := (ti_le (a := r5.toInt) (b := 0) rfl (by decide +kernel)).mp c6
        refine lv_aload_n hx hb dX12_item_43 rfl (lv_at hl 1 rfl) ?_
        refine lv_aload_n hx hb dX12_item_44 rfl (lv_at hl 1 rfl) ?_
        refine mget_62 hx hb hts (fun _ h => List.mem_cons_of_mem _ (List.mem_append_right _ h)) hown hK hP (hts (.fieldLink RX12 132 "TalePlayModel" "items" "[J") (List.mem_cons_of_mem _ (List.mem_append_left _ (List.mem_append_right _ (List.mem_of_getElem? (i := 1) rfl))))) dX12_item_45 ?_
        refine lv_bipush (v := 12) hx hb dX12_item_48 (by decide +kernel) ?_
        refine lv_iload_n hx hb dX12_item_50 rfl (lv_at hl 2 rfl) ?_
        refine lv_imul hx hb dX12_item_51 ?_
        refine lv_topi (fun x7 ex7 => ?_)
        have tx7 := ti_mul (a := 12) (b := w.toInt) ex7 (by decide +kernel) rfl (by omega) (by omega)
        refine lv_iload_n hx hb dX12_item_52 rfl (lv_at hl 4 rfl) ?_
        refine lv_iadd hx hb dX12_item_53 ?_
        refine lv_topi (fun x8 ex8 => ?_)
        have tx8 := ti_add (a := (12 * w.toInt)) (b := n1.toInt) ex8 tx7 rfl (by omega) (by omega)
        refine mld_62 hx hb hK hP (vp_in_iff.mpr (by have h9 : x8.toInt = ((12 * w.toInt) + n1.toInt) := tx8; omega)) dX12_item_54 (fun x9 ex9 => ?_)
        refine mput_37 hx hb hts (fun _ h => List.mem_cons_of_mem _ (List.mem_append_right _ h)) hown hK hP hD hS (hts (.fieldLink RX12 318 "TalePlayModel" "asked" "J") (List.mem_cons_of_mem _ (List.mem_append_left _ (List.mem_append_right _ (List.mem_of_getElem? (i := 2) rfl))))) rfl rfl dX12_item_55 (fun H locs hP hD hS => ?_)
        refine lv_iconst (v := 1) hx hb dX12_item_58 (by decide +kernel) ?_
        exact rw_iret (i, x9, c, d) hx hb hr hlocks hS (hK.sub (tys' := []) [] rfl) hP hD dX12_item_59 ⟨trivial, hI, fr_w hfi (by decide +kernel), fr_w hfc (by decide +kernel)⟩
      · have f6 := mt (ti_le (a := r5.toInt) (b := 0) rfl (by decide +kernel)).mpr c6
        refine lv_aload_n hx hb dX12_item_36 rfl (lv_at hl 1 rfl) ?_
        refine lv_iload hx hb dX12_item_37 (lv_at hl 0 rfl) ?_
        refine al_calli (va_runV (As := [.int r5]) (rest := []) ⟨hx, hb, hml, hown, hts⟩ (s_X12_meets l D H.size o a t i q c d r5 hI (show 1 ≤ r5.toInt ∧ r5.toInt ≤ 6 from by omega)) (cwV 1 hts gm_X12_item_X12_meets rfl rfl rfl (by decide +kernel) ⟨Nat.le_of_ble_eq_true rfl, Nat.le_of_ble_eq_true rfl⟩) (pB_V hK hP hD (ci := 12) (q0 := 0) rfl rfl) rfl rfl hl.1 rfl (lv_room (Nat.le_of_ble_eq_true rfl)) dX12_item_39 ⟨Nat.le_of_ble_eq_true rfl, Nat.le_of_ble_eq_true rfl⟩) hS hA hP hD (fun r10 u10 H locs hw10 hP hD hS => ?_)
        obtain ⟨i10, q10, c10, d10⟩ := u10
        have hw10 : r10 = (-3) ∧ mInv i10 c10 ∧ (∀ k, k ∉ ([0] : List Nat) → i10 k = i k) ∧ (∀ k, k ∉ ([1] : List Nat) → c10 k = c k) := hw10
        obtain ⟨hw10, hI, hei10, hec10⟩ := hw10
        have hfi : ∀ k, k ∉ ([0] : List Nat) → i10 k = i k := fr_z hfi hei10 (by decide +kernel) (by decide +kernel)
        have hfc : ∀ k, k ∉ ([1] : List Nat) → c10 k = c k := fr_z hfc hec10 (by decide +kernel) (by decide +kernel)
        have hP : va_P D vwCl (mW o a t i10 q10 c10 d10) H := hP
        have hD : va_D A (mW o a t i10 q10 c10 d10) := hD
        have hw10 : r10 = (-3) := hw10
        subst hw10
        exact rw_iret (i10, q10, c10, d10) hx hb hr hlocks hS (hK.sub (tys' := []) [] rfl) hP hD dX12_item_42 ⟨trivial, hI, fr_w hfi (by decide +kernel), fr_w hfc (by decide +kernel)⟩
    · have f4 := fl_f hw3 c4
      refine lv_iconst (v := (-1)) hx hb dX12_item_20 (by decide +kernel) ?_
      exact rw_iret (i, q, c, d) hx hb hr hlocks hS (hK.sub (tys' := []) [] rfl) hP hD dX12_item_21 ⟨trivial, hI, fr_w hfi (by decide +kernel), fr_w hfc (by decide +kernel)⟩

def wm_X12_copy : List Cond := .code yX12_copy cX12_copy 8 (some .int) :: ((([.methodLink RX12 180 yX12_isObject, .instanceMethod yX12_isObject, .selects RX12 yX12_isObject yX12_isObject, .initialized RX12, .code yX12_isObject cX12_isObject 2 (some .boolean), .fieldLink RX12 177 "TalePlayModel" "objects" "I", .methodLink RX12 166 yX12_in, .static yX12_in, .code yX12_in cX12_in 6 (some .boolean), .constantLong RX12 279 (3), .fieldLink RX12 136 "TalePlayModel" "hasLine" "[Z", .methodLink RX12 233 yX12_meets, .instanceMethod yX12_meets, .selects RX12 yX12_meets yX12_meets, .code yX12_meets cX12_meets 2 (some .int), .fieldLink RX12 161 "TalePlayModel" "latest" "I"] : List Cond) ++ ([.fieldLink RX12 7 "TalePlayModel" "came" "[I", .fieldLink RX12 129 "TalePlayModel" "lineMany" "[I", .fieldLink RX12 132 "TalePlayModel" "items" "[J", .fieldLink RX12 148 "TalePlayModel" "held" "[J", .fieldLink RX12 126 "TalePlayModel" "lineSort" "[I"] : List Cond)) ++ wsX120)
set_option maxRecDepth 20000 in
theorem gm_X12_copy_X12_isObject : GoodIn wm_X12_copy (wsV RX12 180 RX12 yX12_isObject wm_X12_isObject) := goodIn_w (List.forall_mem_append.mpr ⟨List.forall_mem_cons.mpr ⟨List.mem_cons_of_mem _ (List.mem_append_left _ (List.mem_append_left _ (List.mem_of_getElem? (i := 0) rfl))), List.forall_mem_cons.mpr ⟨List.mem_cons_of_mem _ (List.mem_append_left _ (List.mem_append_left _ (List.mem_of_getElem? (i := 1) rfl))), List.forall_mem_cons.mpr ⟨List.mem_cons_of_mem _ (List.mem_append_left _ (List.mem_append_left _ (List.mem_of_getElem? (i := 2) rfl))), List.forall_mem_cons.mpr ⟨List.mem_cons_of_mem _ (List.mem_append_left _ (List.mem_append_left _ (List.mem_of_getElem? (i := 3) rfl))), (fun _ h => absurd h List.not_mem_nil)⟩⟩⟩⟩, List.forall_mem_cons.mpr ⟨List.mem_cons_of_mem _ (List.mem_append_left _ (List.mem_append_left _ (List.mem_of_getElem? (i := 4) rfl))), List.forall_mem_append.mpr ⟨List.forall_mem_cons.mpr ⟨List.mem_cons_of_mem _ (List.mem_append_left _ (List.mem_append_left _ (List.mem_of_getElem? (i := 5) rfl))), List.forall_mem_cons.mpr ⟨List.mem_cons_of_mem _ (List.mem_append_left _ (List.mem_append_left _ (List.mem_of_getElem? (i := 6) rfl))), List.forall_mem_cons.mpr ⟨List.mem_cons_of_mem _ (List.mem_append_left _ (List.mem_append_left _ (List.mem_of_getElem? (i := 7) rfl))), List.forall_mem_cons.mpr ⟨List.mem_cons_of_mem _ (List.mem_append_left _ (List.mem_append_left _ (List.mem_of_getElem? (i := 3) rfl))), List.forall_mem_cons.mpr ⟨List.mem_cons_of_mem _ (List.mem_append_left _ (List.mem_append_left _ (List.mem_of_getElem? (i := 8) rfl))), (fun _ h => absurd h List.not_mem_nil)⟩⟩⟩⟩⟩, (fun _ h => List.mem_cons_of_mem _ (List.mem_append_right _ h))⟩⟩⟩) (by decide +kernel)
set_option maxRecDepth 20000 in
theorem gm_X12_copy_X12_in : GoodIn wm_X12_copy (va_wsS RX12 166 yX12_in wm_X12_in) := goodIn_w (List.forall_mem_append.mpr ⟨List.forall_mem_cons.mpr ⟨List.mem_cons_of_mem _ (List.mem_append_left _ (List.mem_append_left _ (List.mem_of_getElem? (i := 6) rfl))), List.forall_mem_cons.mpr ⟨List.mem_cons_of_mem _ (List.mem_append_left _ (List.mem_append_left _ (List.mem_of_getElem? (i := 7) rfl))), List.forall_mem_cons.mpr ⟨List.mem_cons_of_mem _ (List.mem_append_left _ (List.mem_append_left _ (List.mem_of_getElem? (i := 3) rfl))), (fun _ h => absurd h List.not_mem_nil)⟩⟩⟩, List.forall_mem_cons.mpr ⟨List.mem_cons_of_mem _ (List.mem_append_left _ (List.mem_append_left _ (List.mem_of_getElem? (i := 8) rfl))), (fun _ h => absurd h List.not_mem_nil)⟩⟩) (by decide +kernel)
set_option maxRecDepth 20000 in
theorem gm_X12_copy_X12_meets : GoodIn wm_X12_copy (wsV RX12 233 RX12 yX12_meets wm_X12_meets) := goodIn_w (List.forall_mem_append.mpr ⟨List.forall_mem_cons.mpr ⟨List.mem_cons_of_mem _ (List.mem_append_left _ (List.mem_append_left _ (List.mem_of_getElem? (i := 11) rfl))), List.forall_mem_cons.mpr ⟨List.mem_cons_of_mem _ (List.mem_append_left _ (List.mem_append_left _ (List.mem_of_getElem? (i := 12) rfl))), List.forall_mem_cons.mpr ⟨List.mem_cons_of_mem _ (List.mem_append_left _ (List.mem_append_left _ (List.mem_of_getElem? (i := 13) rfl))), List.forall_mem_cons.mpr ⟨List.mem_cons_of_mem _ (List.mem_append_left _ (List.mem_append_left _ (List.mem_of_getElem? (i := 3) rfl))), (fun _ h => absurd h List.not_mem_nil)⟩⟩⟩⟩, List.forall_mem_cons.mpr ⟨List.mem_cons_of_mem _ (List.mem_append_left _ (List.mem_append_left _ (List.mem_of_getElem? (i := 14) rfl))), List.forall_mem_append.mpr ⟨List.forall_mem_cons.mpr ⟨List.mem_cons_of_mem _ (List.mem_append_left _ (List.mem_append_left _ (List.mem_of_getElem? (i := 15) rfl))), List.forall_mem_cons.mpr ⟨List.mem_cons_of_mem _ (List.mem_append_left _ (List.mem_append_right _ (List.mem_of_getElem? (i := 0) rfl))), (fun _ h => absurd h List.not_mem_nil)⟩⟩, (fun _ h => List.mem_cons_of_mem _ (List.mem_append_right _ h))⟩⟩⟩) (by decide +kernel)
set_option maxHeartbeats 4000000 in
set_option maxRecDepth 100000 in
theorem s_X12_copy (l : Launch) (D : va_G) (sz : Nat) (o : Nat) (a : Nat → Nat) (t : Nat → ClassId) (i : Nat → Int32) (q : Int64) (c : Nat → Nat → Int32) (d : Nat → Nat → Int64) (w : Int32) (s1 : Int32) (n1 : Int32) (w2 : Int32) (n2 : Int32) (n3 : Int32) (hI : mInv i c) : Met l yX12_copy wm_X12_copy ({ frames := 2, cells := 0, slots := 0, locals := 46 }) (va_Pc [.ref o, .int w, .int s1, .int n1, .int w2, .int n2, .int n3] (pB D sz (mW o a t i q c d) (mT t))) (va_Qi (fun (r : Int32) (u : MS) => True ∧ mInv u.1 u.2.2.1 ∧ (∀ k, k ∉ ([0] : List Nat) → u.1 k = i k) ∧ (∀ k, k ∉ ([1] : List Nat) → u.2.2.1 k = c k)) (oC D (va_A (mW o a t i q c d) sz) (fun u : MS => mW o a t u.1 u.2.1 u.2.2.1 u.2.2.2) (fun _ => [])) (va_A (mW o a t i q c d) sz)) 0 0 (va_A (mW o a t i q c d) sz) := by
  refine Met.ofW (cc := cX12_copy) (maxL := 8) (ret := (some .int)) (by decide +kernel) rfl ?_
  intro p e s m args below meth cd s₁ B hml hv
  obtain ⟨rfl, hsz, hP, hK, hD0⟩ := hv
  have hx := B.exec
  have hb := B.bytes
  have hr := B.returns
  have hts := atoms_spec (ws := wm_X12_copy) B.pre
  have hown : s.vm.findClass RX12 = some m.cls := findClass_of_methodNamed B.named
  have hlocks := B.notSynchronized
  subst hsz
  have hD := hD0.self (sz := s.heap.size)
  generalize hAe : va_A (mW o a t i q c d) s.heap.size = A at hD ⊢
  have hA : ∀ q : Nat, s.heap.size ≤ q → A q := fun q h => by rw [← hAe]; exact Or.inr h
  have hS : va_S A s.heap s.heap [] := va_S.rf
  have hfi : ∀ k, k ∉ ([] : List Nat) → i k = i k := fun _ _ => rfl
  have hfc : ∀ k, k ∉ ([] : List Nat) → c k = c k := fun _ _ => rfl
  have hl := lv_entry ([.ref o, .int w, .int s1, .int n1, .int w2, .int n2, .int n3]) (n := 8) (Nat.le_of_ble_eq_true rfl)
  rw [lg_entry_eq]
  generalize (lg_sl ([.ref o, .int w, .int s1, .int n1, .int w2, .int n2, .int n3]) ++ List.replicate (8 - (lg_sl ([.ref o, .int w, .int s1, .int n1, .int w2, .int n2, .int n3])).length) Slot.unset).toArray = ls at hl ⊢
  have hl : lv_has ls 8 [(0, .ref o), (1, .int w), (2, .int s1), (3, .int n1), (4, .int w2), (5, .int n2), (6, .int n3)] := hl
  refine lv_aload_n hx hb dX12_copy_0 rfl (lv_at hl 0 rfl) ?_
  refine lv_iload_n hx hb dX12_copy_1 rfl (lv_at hl 1 rfl) ?_
  have rb5_i : 0 ≤ (i 5).toInt ∧ (i 5).toInt ≤ 30 := hI.1 5
  refine ro_calli (va_runV (As := [.int w]) (rest := []) ⟨hx, hb, hml, hown, hts⟩ (s_X12_isObject l D s.heap.size o a t i q c d w hI ) (cwV 1 hts gm_X12_copy_X12_isObject rfl rfl rfl (by decide +kernel) ⟨Nat.le_of_ble_eq_true rfl, Nat.le_of_ble_eq_true rfl⟩) (pA_V hK hP (ci := 12) (q0 := 0) rfl rfl) rfl rfl hl.1 rfl (lv_room (Nat.le_of_ble_eq_true rfl)) dX12_copy_2 ⟨Nat.le_of_ble_eq_true rfl, Nat.le_of_ble_eq_true rfl⟩) hS hA hP (fun r1 u1 H locs hw1 hP hS => ?_)
  have hw1 : r1 = if (0 ≤ w.toInt ∧ w.toInt ≤ (i 5).toInt - 1) then 1 else 0 := hw1
  refine lv_if_eq (tgt := 29) hx hb dX12_copy_5 (by decide +kernel) (fun c2 => ?_) (fun c2 => ?_)
  · have f2 := fl_f hw1 c2
    refine lv_iconst (v := (-1)) hx hb dX12_copy_29 (by decide +kernel) ?_
    exact rw_iret (i, q, c, d) hx hb hr hlocks hS (hK.sub (tys' := []) [] rfl) hP hD dX12_copy_30 ⟨trivial, hI, fr_w hfi (by decide +kernel), fr_w hfc (by decide +kernel)⟩
  · have f2 := fl_t hw1 c2
    refine lv_aload_n hx hb dX12_copy_8 rfl (lv_at hl 0 rfl) ?_
    refine lv_iload hx hb dX12_copy_9 (lv_at hl 4 rfl) ?_
    refine ro_calli (va_runV (As := [.int w2]) (rest := []) ⟨hx, hb, hml, hown, hts⟩ (s_X12_isObject l D H.size o a t i q c d w2 hI ) (cwV 1 hts gm_X12_copy_X12_isObject rfl rfl rfl (by decide +kernel) ⟨Nat.le_of_ble_eq_true rfl, Nat.le_of_ble_eq_true rfl⟩) (pA_V hK hP (ci := 12) (q0 := 0) rfl rfl) rfl rfl hl.1 rfl (lv_room (Nat.le_of_ble_eq_true rfl)) dX12_copy_11 ⟨Nat.le_of_ble_eq_true rfl, Nat.le_of_ble_eq_true rfl⟩) hS hA hP (fun r3 u3 H locs hw3 hP hS => ?_)
    have hw3 : r3 = if (0 ≤ w2.toInt ∧ w2.toInt ≤ (i 5).toInt - 1) then 1 else 0 := hw3
    refine lv_if_eq (tgt := 29) hx hb dX12_copy_14 (by decide +kernel) (fun c4 => ?_) (fun c4 => ?_)
    · have f4 := fl_f hw3 c4
      refine lv_iconst (v := (-1)) hx hb dX12_copy_29 (by decide +kernel) ?_
      exact rw_iret (i, q, c, d) hx hb hr hlocks hS (hK.sub (tys' := []) [] rfl) hP hD dX12_copy_30 ⟨trivial, hI, fr_w hfi (by decide +kernel), fr_w hfc (by decide +kernel)⟩
    · have f4 := fl_t hw3 c4
      refine lv_iload_n hx hb dX12_copy_17 rfl (lv_at hl 2 rfl) ?_
      refine lv_i2l (v := s1.toInt64) hx hb dX12_copy_18 rfl ?_
      refine lv_lconst (v := 0) hx hb dX12_copy_19 (by decide +kernel) ?_
      refine lv_ldc2 (v := 3) hx hb hown (hts (.constantLong RX12 279 (3)) (List.mem_cons_of_mem _ (List.mem_append_left _ (List.mem_append_left _ (List.mem_of_getElem? (i := 9) rfl))))) dX12_copy_20 ?_
      have hPc := hP.sub (ws' := []) [] rfl
      have hKc := hK.sub (tys' := []) [] rfl
      refine ro_calli (va_runS (As := [.long s1.toInt64, .long 0, .long 3]) (rest := []) ⟨hx, hb, hml, hown, hts⟩ (c_X12_in l D H.size s1.toInt64 0 3 s1.toInt 0 3 ((Int32.toInt_toInt64 s1).trans rfl) (by decide +kernel) (by decide +kernel)) (va_cwS 3 hts gm_X12_copy_X12_in rfl rfl rfl (by decide +kernel) ⟨Nat.le_of_ble_eq_true rfl, Nat.le_of_ble_eq_true rfl⟩) (pA_S hKc hPc) rfl rfl hl.1 rfl (lv_room (Nat.le_of_ble_eq_true rfl)) dX12_copy_23 ⟨Nat.le_of_ble_eq_true rfl, Nat.le_of_ble_eq_true rfl⟩) hS hA hP (fun r5 u5 H locs hw5 hP hS => ?_)
      have hw5 : r5 = if (0 ≤ s1.toInt ∧ s1.toInt ≤ 3) then 1 else 0 := hw5
      refine lv_if_ne (tgt := 31) hx hb dX12_copy_26 (by decide +kernel) (fun c6 => ?_) (fun c6 => ?_)
      · have f6 := fl_t hw5 c6
        refine lv_aload_n hx hb dX12_copy_31 rfl (lv_at hl 0 rfl) ?_
        refine mget_63 hx hb hts (fun _ h => List.mem_cons_of_mem _ (List.mem_append_right _ h)) hown hK hP (hts (.fieldLink RX12 136 "TalePlayModel" "hasLine" "[Z") (List.mem_cons_of_mem _ (List.mem_append_left _ (List.mem_append_left _ (List.mem_of_getElem? (i := 10) rfl))))) dX12_copy_32 ?_
        refine lv_iload_n hx hb dX12_copy_35 rfl (lv_at hl 1 rfl) ?_
        refine mld_63 hx hb hK hP (vp_in_iff.mpr (by have h9 : w.toInt = w.toInt := rfl; omega)) dX12_copy_36 (fun x7 ex7 => ?_)
        have rx7 : 0 ≤ x7.toInt ∧ x7.toInt ≤ 1 := by rw [ex7]; exact hI.2 63 _
        have jn8 : ∀ (H : Heap) (locs : List Loc) (ls : Array Slot), va_P D vwCl (mW o a t i q c d) H → va_D A (mW o a t i q c d) → va_S A s.heap H locs → lv_has ls 8 [(0, .ref o), (1, .int w), (2, .int s1), (3, .int n1), (4, .int w2), (5, .int n2), (6, .int n3)] → W p l e (headSpec wm_X12_copy ({ frames := 2, cells := 0, slots := 0, locals := 46 })).room s m ([.ref o, .int w, .int s1, .int n1, .int w2, .int n2, .int n3] : List Value).toArray below meth cd H locs 0 0 (MQ below (va_Qi (fun (r : Int32) (u : MS) => True ∧ mInv u.1 u.2.2.1 ∧ (∀ k, k ∉ ([0] : List Nat) → u.1 k = i k) ∧ (∀ k, k ∉ ([1] : List Nat) → u.2.2.1 k = c k)) (oC D A (fun u : MS => mW o a t u.1 u.2.1 u.2.2.1 u.2.2.2) (fun _ => [])) A) ([.ref o, .int w, .int s1, .int n1, .int w2, .int n2, .int n3] : List Value).toArray s 0 0 A) (F0 m 50 ls []) := by
          intro H locs ls hP hD hS hl
          refine lv_aload_n hx hb dX12_copy_50 rfl (lv_at hl 0 rfl) ?_
          refine mget_63 hx hb hts (fun _ h => List.mem_cons_of_mem _ (List.mem_append_right _ h)) hown hK hP (hts (.fieldLink RX12 136 "TalePlayModel" "hasLine" "[Z") (List.mem_cons_of_mem _ (List.mem_append_left _ (List.mem_append_left _ (List.mem_of_getElem? (i := 10) rfl))))) dX12_copy_51 ?_
          refine lv_iload hx hb dX12_copy_54 (lv_at hl 4 rfl) ?_
          refine mld_63 hx hb hK hP (vp_in_iff.mpr (by have h9 : w2.toInt = w2.toInt := rfl; omega)) dX12_copy_56 (fun x9 ex9 => ?_)
          have rx9 : 0 ≤ x9.toInt ∧ x9.toInt ≤ 1 := by rw [ex9]; exact hI.2 63 _
          have jn10 : ∀ (H : Heap) (locs : List Loc) (ls : Array Slot), va_P D vwCl (mW o a t i q c d) H → va_D A (mW o a t i q c d) → va_S A s.heap H locs → lv_has ls 8 [(0, .ref o), (1, .int w), (2, .int s1), (3, .int n1), (4, .int w2), (5, .int n2), (6, .int n3)] → W p l e (headSpec wm_X12_copy ({ frames := 2, cells := 0, slots := 0, locals := 46 })).room s m ([.ref o, .int w, .int s1, .int n1, .int w2, .int n2, .int n3] : List Value).toArray below meth cd H locs 0 0 (MQ below (va_Qi (fun (r : Int32) (u : MS) => True ∧ mInv u.1 u.2.2.1 ∧ (∀ k, k ∉ ([0] : List Nat) → u.1 k = i k) ∧ (∀ k, k ∉ ([1] : List Nat) → u.2.2.1 k = c k)) (oC D A (fun u : MS => mW o a t u.1 u.2.1 u.2.2.1 u.2.2.2) (fun _ => [])) A) ([.ref o, .int w, .int s1, .int n1, .int w2, .int n2, .int n3] : List Value).toArray s 0 0 A) (F0 m 77 ls []) := by
            intro H locs ls hP hD hS hl
            refine lv_aload_n hx hb dX12_copy_77 rfl (lv_at hl 0 rfl) ?_
            refine mget_63 hx hb hts (fun _ h => List.mem_cons_of_mem _ (List.mem_append_right _ h)) hown hK hP (hts (.fieldLink RX12 136 "TalePlayModel" "hasLine" "[Z") (List.mem_cons_of_mem _ (List.mem_append_left _ (List.mem_append_left _ (List.mem_of_getElem? (i := 10) rfl))))) dX12_copy_78 ?_
            refine lv_iload_n hx hb dX12_copy_81 rfl (lv_at hl 1 rfl) ?_
            refine mld_63 hx hb hK hP (vp_in_iff.mpr (by have h9 : w.toInt = w.toInt := rfl; omega)) dX12_copy_82 (fun x11 ex11 => ?_)
            have rx11 : 0 ≤ x11.toInt ∧ x11.toInt ≤ 1 := by rw [ex11]; exact hI.2 63 _
            refine lv_if_eq (tgt := 96) hx hb dX12_copy_83 (by decide +kernel) (fun c12 => ?_) (fun c12 => ?_)
            · have f12 := (ti_eq (a := x11.toInt) (b := 0) rfl (by decide +kernel)).mp c12
              refine lv_aload_n hx hb dX12_copy_96 rfl (lv_at hl 0 rfl) ?_
              refine lv_iconst (v := 1) hx hb dX12_copy_97 (by decide +kernel) ?_
              refine al_calli (va_runV (As := [.int 1]) (rest := []) ⟨hx, hb, hml, hown, hts⟩ (s_X12_meets l D H.size o a t i q c d 1 hI (show 1 ≤ 1 ∧ 1 ≤ 6 from by decide +kernel)) (cwV 1 hts gm_X12_copy_X12_meets rfl rfl rfl (by decide +kernel) ⟨Nat.le_of_ble_eq_true rfl, Nat.le_of_ble_eq_true rfl⟩) (pB_V hK hP hD (ci := 12) (q0 := 0) rfl rfl) rfl rfl hl.1 rfl (lv_room (Nat.le_of_ble_eq_true rfl)) dX12_copy_98 ⟨Nat.le_of_ble_eq_true rfl, Nat.le_of_ble_eq_true rfl⟩) hS hA hP hD (fun r13 u13 H locs hw13 hP hD hS => ?_)
              obtain ⟨i13, q13, c13, d13⟩ := u13
              have hw13 : r13 = (-3) ∧ mInv i13 c13 ∧ (∀ k, k ∉ ([0] : List Nat) → i13 k = i k) ∧ (∀ k, k ∉ ([1] : List Nat) → c13 k = c k) := hw13
              obtain ⟨hw13, hI, hei13, hec13⟩ := hw13
              have hfi : ∀ k, k ∉ ([0] : List Nat) → i13 k = i k := fr_z hfi hei13 (by decide +kernel) (by decide +kernel)
              have hfc : ∀ k, k ∉ ([1] : List Nat) → c13 k = c k := fr_z hfc hec13 (by decide +kernel) (by decide +kernel)
              have hP : va_P D vwCl (mW o a t i13 q13 c13 d13) H := hP
              have hD : va_D A (mW o a t i13 q13 c13 d13) := hD
              have hw13 : r13 = (-3) := hw13
              subst hw13
              exact rw_iret (i13, q13, c13, d13) hx hb hr hlocks hS (hK.sub (tys' := []) [] rfl) hP hD dX12_copy_101 ⟨trivial, hI, fr_w hfi (by decide +kernel), fr_w hfc (by decide +kernel)⟩
            · have f12 := mt (ti_eq (a := x11.toInt) (b := 0) rfl (by decide +kernel)).mpr c12
              refine lv_aload_n hx hb dX12_copy_86 rfl (lv_at hl 0 rfl) ?_
              refine mget_63 hx hb hts (fun _ h => List.mem_cons_of_mem _ (List.mem_append_right _ h)) hown hK hP (hts (.fieldLink RX12 136 "TalePlayModel" "hasLine" "[Z") (List.mem_cons_of_mem _ (List.mem_append_left _ (List.mem_append_left _ (List.mem_of_getElem? (i := 10) rfl))))) dX12_copy_87 ?_
              refine lv_iload hx hb dX12_copy_90 (lv_at hl 4 rfl) ?_
              refine mld_63 hx hb hK hP (vp_in_iff.mpr (by have h9 : w2.toInt = w2.toInt := rfl; omega)) dX12_copy_92 (fun x14 ex14 => ?_)
              have rx14 : 0 ≤ x14.toInt ∧ x14.toInt ≤ 1 := by rw [ex14]; exact hI.2 63 _
              refine lv_if_ne (tgt := 102) hx hb dX12_copy_93 (by decide +kernel) (fun c15 => ?_) (fun c15 => ?_)
              · have f15 := mt (ti_eq (a := x14.toInt) (b := 0) rfl (by decide +kernel)).mpr c15
                refine lv_iload_n hx hb dX12_copy_102 rfl (lv_at hl 3 rfl) ?_
                refine lv_if_lt (tgt := 152) hx hb dX12_copy_103 (by decide +kernel) (fun c16 => ?_) (fun c16 => ?_)
                · have f16 := (ti_lt (a := n1.toInt) (b := 0) rfl (by decide +kernel)).mp c16
                  refine lv_aload_n hx hb dX12_copy_152 rfl (lv_at hl 0 rfl) ?_
                  refine lv_iconst (v := 2) hx hb dX12_copy_153 (by decide +kernel) ?_
                  refine al_calli (va_runV (As := [.int 2]) (rest := []) ⟨hx, hb, hml, hown, hts⟩ (s_X12_meets l D H.size o a t i q c d 2 hI (show 1 ≤ 2 ∧ 2 ≤ 6 from by decide +kernel)) (cwV 1 hts gm_X12_copy_X12_meets rfl rfl rfl (by decide +kernel) ⟨Nat.le_of_ble_eq_true rfl, Nat.le_of_ble_eq_true rfl⟩) (pB_V hK hP hD (ci := 12) (q0 := 0) rfl rfl) rfl rfl hl.1 rfl (lv_room (Nat.le_of_ble_eq_true rfl)) dX12_copy_154 ⟨Nat.le_of_ble_eq_true rfl, Nat.le_of_ble_eq_true rfl⟩) hS hA hP hD (fun r17 u17 H locs hw17 hP hD hS => ?_)
                  obtain ⟨i17, q17, c17, d17⟩ := u17
                  have hw17 : r17 = (-3) ∧ mInv i17 c17 ∧ (∀ k, k ∉ ([0] : List Nat) → i17 k = i k) ∧ (∀ k, k ∉ ([1] : List Nat) → c17 k = c k) := hw17
                  obtain ⟨hw17, hI, hei17, hec17⟩ := hw17
                  have hfi : ∀ k, k ∉ ([0] : List Nat) → i17 k = i k := fr_z hfi hei17 (by decide +kernel) (by decide +kernel)
                  have hfc : ∀ k, k ∉ ([1] : List Nat) → c17 k = c k := fr_z hfc hec17 (by decide +kernel) (by decide +kernel)
                  have hP : va_P D vwCl (mW o a t i17 q17 c17 d17) H := hP
                  have hD : va_D A (mW o a t i17 q17 c17 d17) := hD
                  have hw17 : r17 = (-3) := hw17
                  subst hw17
                  exact rw_iret (i17, q17, c17, d17) hx hb hr hlocks hS (hK.sub (tys' := []) [] rfl) hP hD dX12_copy_157 ⟨trivial, hI, fr_w hfi (by decide +kernel), fr_w hfc (by decide +kernel)⟩
                · have f16 := mt (ti_lt (a := n1.toInt) (b := 0) rfl (by decide +kernel)).mpr c16
                  refine lv_iload hx hb dX12_copy_106 (lv_at hl 5 rfl) ?_
                  refine lv_if_lt (tgt := 152) hx hb dX12_copy_108 (by decide +kernel) (fun c18 => ?_) (fun c18 => ?_)
                  · have f18 := (ti_lt (a := n2.toInt) (b := 0) rfl (by decide +kernel)).mp c18
                    refine lv_aload_n hx hb dX12_copy_152 rfl (lv_at hl 0 rfl) ?_
                    refine lv_iconst (v := 2) hx hb dX12_copy_153 (by decide +kernel) ?_
                    refine al_calli (va_runV (As := [.int 2]) (rest := []) ⟨hx, hb, hml, hown, hts⟩ (s_X12_meets l D H.size o a t i q c d 2 hI (show 1 ≤ 2 ∧ 2 ≤ 6 from by decide +kernel)) (cwV 1 hts gm_X12_copy_X12_meets rfl rfl rfl (by decide +kernel) ⟨Nat.le_of_ble_eq_true rfl, Nat.le_of_ble_eq_true rfl⟩) (pB_V hK hP hD (ci := 12) (q0 := 0) rfl rfl) rfl rfl hl.1 rfl (lv_room (Nat.le_of_ble_eq_true rfl)) dX12_copy_154 ⟨Nat.le_of_ble_eq_true rfl, Nat.le_of_ble_eq_true rfl⟩) hS hA hP hD (fun r19 u19 H locs hw19 hP hD hS => ?_)
                    obtain ⟨i19, q19, c19, d19⟩ := u19
                    have hw19 : r19 = (-3) ∧ mInv i19 c19 ∧ (∀ k, k ∉ ([0] : List Nat) → i19 k = i k) ∧ (∀ k, k ∉ ([1] : List Nat) → c19 k = c k) := hw19
                    obtain ⟨hw19, hI, hei19, hec19⟩ := hw19
                    have hfi : ∀ k, k ∉ ([0] : List Nat) → i19 k = i k := fr_z hfi hei19 (by decide +kernel) (by decide +kernel)
                    have hfc : ∀ k, k ∉ ([1] : List Nat) → c19 k = c k := fr_z hfc hec19 (by decide +kernel) (by decide +kernel)
                    have hP : va_P D vwCl (mW o a t i19 q19 c19 d19) H := hP
                    have hD : va_D A (mW o a t i19 q19 c19 d19) := hD
                    have hw19 : r19 = (-3) := hw19
                    subst hw19
                    exact rw_iret (i19, q19, c19, d19) hx hb hr hlocks hS (hK.sub (tys' := []) [] rfl) hP hD dX12_copy_157 ⟨trivial, hI, fr_w hfi (by decide +kernel), fr_w hfc (by decide +kernel)⟩
                  · have f18 := mt (ti_lt (a := n2.toInt) (b := 0) rfl (by decide +kernel)).mpr c18
                    refine lv_iload hx hb dX12_copy_111 (lv_at hl 6 rfl) ?_
                    refine lv_if_lt (tgt := 152) hx hb dX12_copy_113 (by decide +kernel) (fun c20 => ?_) (fun c20 => ?_)
                    · have f20 := (ti_lt (a := n3.toInt) (b := 0) rfl (by decide +kernel)).mp c20
                      refine lv_aload_n hx hb dX12_copy_152 rfl (lv_at hl 0 rfl) ?_
                      refine lv_iconst (v := 2) hx hb dX12_copy_153 (by decide +kernel) ?_
                      refine al_calli (va_runV (As := [.int 2]) (rest := []) ⟨hx, hb, hml, hown, hts⟩ (s_X12_meets l D H.size o a t i q c d 2 hI (show 1 ≤ 2 ∧ 2 ≤ 6 from by decide +kernel)) (cwV 1 hts gm_X12_copy_X12_meets rfl rfl rfl (by decide +kernel) ⟨Nat.le_of_ble_eq_true rfl, Nat.le_of_ble_eq_true rfl⟩) (pB_V hK hP hD (ci := 12) (q0 := 0) rfl rfl) rfl rfl hl.1 rfl (lv_room (Nat.le_of_ble_eq_true rfl)) dX12_copy_154 ⟨Nat.le_of_ble_eq_true rfl, Nat.le_of_ble_eq_true rfl⟩) hS hA hP hD (fun r21 u21 H locs hw21 hP hD hS => ?_)
                      obtain ⟨i21, q21, c21, d21⟩ := u21
                      have hw21 : r21 = (-3) ∧ mInv i21 c21 ∧ (∀ k, k ∉ ([0] : List Nat) → i21 k = i k) ∧ (∀ k, k ∉ ([1] : List Nat) → c21 k = c k) := hw21
                      obtain ⟨hw21, hI, hei21, hec21⟩ := hw21
                      have hfi : ∀ k, k ∉ ([0] : List Nat) → i21 k = i k := fr_z hfi hei21 (by decide +kernel) (by decide +kernel)
                      have hfc : ∀ k, k ∉ ([1] : List Nat) → c21 k = c k := fr_z hfc hec21 (by decide +kernel) (by decide +kernel)
                      have hP : va_P D vwCl (mW o a t i21 q21 c21 d21) H := hP
                      have hD : va_D A (mW o a t i21 q21 c21 d21) := hD
                      have hw21 : r21 = (-3) := hw21
                      subst hw21
                      exact rw_iret (i21, q21, c21, d21) hx hb hr hlocks hS (hK.sub (tys' := []) [] rfl) hP hD dX12_copy_157 ⟨trivial, hI, fr_w hfi (by decide +kernel), fr_w hfc (by decide +kernel)⟩
                    · have f20 := mt (ti_lt (a := n3.toInt) (b := 0) rfl (by decide +kernel)).mpr c20
                      refine lv_iload_n hx hb dX12_copy_116 rfl (lv_at hl 3 rfl) ?_
                      refine lv_i2l (v := n1.toInt64) hx hb dX12_copy_117 rfl ?_
                      refine lv_iload hx hb dX12_copy_118 (lv_at hl 6 rfl) ?_
                      refine lv_i2l (v := n3.toInt64) hx hb dX12_copy_120 rfl ?_
                      refine lv_ladd hx hb dX12_copy_121 ?_
                      refine lv_topl (fun x22 ex22 => ?_)
                      have ib22_n1 := i32b n1
                      have ib22_n3 := i32b n3
                      have tx22 := ti_addl (a := n1.toInt) (b := n3.toInt) ex22 ((Int32.toInt_toInt64 n1).trans rfl) ((Int32.toInt_toInt64 n3).trans rfl) (by omega) (by omega)
                      refine lv_aload_n hx hb dX12_copy_122 rfl (lv_at hl 0 rfl) ?_
                      refine mget_61 hx hb hts (fun _ h => List.mem_cons_of_mem _ (List.mem_append_right _ h)) hown hK hP (hts (.fieldLink RX12 129 "TalePlayModel" "lineMany" "[I") (List.mem_cons_of_mem _ (List.mem_append_left _ (List.mem_append_right _ (List.mem_of_getElem? (i := 1) rfl))))) dX12_copy_123 ?_
                      refine lv_iload_n hx hb dX12_copy_126 rfl (lv_at hl 1 rfl) ?_
                      refine mld_61 hx hb hK hP (vp_in_iff.mpr (by have h9 : w.toInt = w.toInt := rfl; omega)) dX12_copy_127 (fun x23 ex23 => ?_)
                      have rx23 : 0 ≤ x23.toInt ∧ x23.toInt ≤ 12 := by rw [ex23]; exact hI.2 61 _
                      refine lv_i2l (v := x23.toInt64) hx hb dX12_copy_128 rfl ?_
                      refine W.lcmp hx hb dX12_copy_129 ?_
                      refine lv_if_gt (tgt := 152) hx hb dX12_copy_130 (by decide +kernel) (fun c24 => ?_) (fun c24 => ?_)
                      · have f24 := (lc_gt (a := (n1.toInt + n3.toInt)) (b := x23.toInt) tx22 ((Int32.toInt_toInt64 x23).trans rfl)).mp c24
                        refine lv_aload_n hx hb dX12_copy_152 rfl (lv_at hl 0 rfl) ?_
                        refine lv_iconst (v := 2) hx hb dX12_copy_153 (by decide +kernel) ?_
                        refine al_calli (va_runV (As := [.int 2]) (rest := []) ⟨hx, hb, hml, hown, hts⟩ (s_X12_meets l D H.size o a t i q c d 2 hI (show 1 ≤ 2 ∧ 2 ≤ 6 from by decide +kernel)) (cwV 1 hts gm_X12_copy_X12_meets rfl rfl rfl (by decide +kernel) ⟨Nat.le_of_ble_eq_true rfl, Nat.le_of_ble_eq_true rfl⟩) (pB_V hK hP hD (ci := 12) (q0 := 0) rfl rfl) rfl rfl hl.1 rfl (lv_room (Nat.le_of_ble_eq_true rfl)) dX12_copy_154 ⟨Nat.le_of_ble_eq_true rfl, Nat.le_of_ble_eq_true rfl⟩) hS hA hP hD (fun r25 u25 H locs hw25 hP hD hS => ?_)
                        obtain ⟨i25, q25, c25, d25⟩ := u25
                        have hw25 : r25 = (-3) ∧ mInv i25 c25 ∧ (∀ k, k ∉ ([0] : List Nat) → i25 k = i k) ∧ (∀ k, k ∉ ([1] : List Nat) → c25 k = c k) := hw25
                        obtain ⟨hw25, hI, hei25, hec25⟩ := hw25
                        have hfi : ∀ k, k ∉ ([0] : List Nat) → i25 k = i k := fr_z hfi hei25 (by decide +kernel) (by decide +kernel)
                        have hfc : ∀ k, k ∉ ([1] : List Nat) → c25 k = c k := fr_z hfc hec25 (by decide +kernel) (by decide +kernel)
                        have hP : va_P D vwCl (mW o a t i25 q25 c25 d25) H := hP
                        have hD : va_D A (mW o a t i25 q25 c25 d25) := hD
                        have hw25 : r25 = (-3) := hw25
                        subst hw25
                        exact rw_iret (i25, q25, c25, d25) hx hb hr hlocks hS (hK.sub (tys' := []) [] rfl) hP hD dX12_copy_157 ⟨trivial, hI, fr_w hfi (by decide +kernel), fr_w hfc (by decide +kernel)⟩
                      · have f24 := mt (lc_gt (a := (n1.toInt + n3.toInt)) (b := x23.toInt) tx22 ((Int32.toInt_toInt64 x23).trans rfl)).mpr c24
                        refine lv_iload hx hb dX12_copy_133 (lv_at hl 5 rfl) ?_
                        refine lv_i2l (v := n2.toInt64) hx hb dX12_copy_135 rfl ?_
                        refine lv_iload hx hb dX12_copy_136 (lv_at hl 6 rfl) ?_
                        refine lv_i2l (v := n3.toInt64) hx hb dX12_copy_138 rfl ?_
                        refine lv_ladd hx hb dX12_copy_139 ?_
                        refine lv_topl (fun x26 ex26 => ?_)
                        have ib26_n2 := i32b n2
                        have ib26_n3 := i32b n3
                        have tx26 := ti_addl (a := n2.toInt) (b := n3.toInt) ex26 ((Int32.toInt_toInt64 n2).trans rfl) ((Int32.toInt_toInt64 n3).trans rfl) (by omega) (by omega)
                        refine lv_aload_n hx hb dX12_copy_140 rfl (lv_at hl 0 rfl) ?_
                        refine mget_61 hx hb hts (fun _ h => List.mem_cons_of_mem _ (List.mem_append_right _ h)) hown hK hP (hts (.fieldLink RX12 129 "TalePlayModel" "lineMany" "[I") (List.mem_cons_of_mem _ (List.mem_append_left _ (List.mem_append_right _ (List.mem_of_getElem? (i := 1) rfl))))) dX12_copy_141 ?_
                        refine lv_iload hx hb dX12_copy_144 (lv_at hl 4 rfl) ?_
                        refine mld_61 hx hb hK hP (vp_in_iff.mpr (by have h9 : w2.toInt = w2.toInt := rfl; omega)) dX12_copy_146 (fun x27 ex27 => ?_)
                        have rx27 : 0 ≤ x27.toInt ∧ x27.toInt ≤ 12 := by rw [ex27]; exact hI.2 61 _
                        refine lv_i2l (v := x27.toInt64) hx hb dX12_copy_147 rfl ?_
                        refine W.lcmp hx hb dX12_copy_148 ?_
                        refine lv_if_le (tgt := 158) hx hb dX12_copy_149 (by decide +kernel) (fun c28 => ?_) (fun c28 => ?_)
                        · have f28 := (lc_le (a := (n2.toInt + n3.toInt)) (b := x27.toInt) tx26 ((Int32.toInt_toInt64 x27).trans rfl)).mp c28
                          refine lv_iconst (v := 0) hx hb dX12_copy_158 (by decide +kernel) ?_
                          refine lv_istore (lv' := [(7, .int 0), (0, .ref o), (1, .int w), (2, .int s1), (3, .int n1), (4, .int w2), (5, .int n2), (6, .int n3)]) hx hb dX12_copy_159 hl (by decide +kernel) rfl (fun ls hl => ?_)
                          have lp29 : ∀ (fu : Nat) (i29 : Nat → Int32) (q29 : Int64) (c29 : Nat → Nat → Int32) (d29 : Nat → Nat → Int64) (y29_7 : Int32), mInv i29 c29 → (∀ k, k ∉ ([] : List Nat) → i29 k = i k) → (∀ k, k ∉ ([] : List Nat) → c29 k = c k) → (0 ≤ y29_7.toInt ∧ y29_7.toInt ≤ 12) → (12 - y29_7.toInt).toNat < fu → ∀ (H : Heap) (locs : List Loc) (ls : Array Slot), va_P D vwCl (mW o a t i29 q29 c29 d29) H → va_D A (mW o a t i29 q29 c29 d29) → va_S A s.heap H locs → lv_has ls 8 [(7, .int y29_7), (0, .ref o), (1, .int w), (2, .int s1), (3, .int n1), (4, .int w2), (5, .int n2), (6, .int n3)] → W p l e (headSpec wm_X12_copy ({ frames := 2, cells := 0, slots := 0, locals := 46 })).room s m ([.ref o, .int w, .int s1, .int n1, .int w2, .int n2, .int n3] : List Value).toArray below meth cd H locs 0 0 (MQ below (va_Qi (fun (r : Int32) (u : MS) => True ∧ mInv u.1 u.2.2.1 ∧ (∀ k, k ∉ ([0] : List Nat) → u.1 k = i k) ∧ (∀ k, k ∉ ([1] : List Nat) → u.2.2.1 k = c k)) (oC D A (fun u : MS => mW o a t u.1 u.2.1 u.2.2.1 u.2.2.2) (fun _ => [])) A) ([.ref o, .int w, .int s1, .int n1, .int w2, .int n2, .int n3] : List Value).toArray s 0 0 A) (F0 m 161 ls []) := by
                            intro fu
                            induction fu with
                            | zero => intro i29 q29 c29 d29 y29_7 hI hfi hfc hy29_7 hm; exact absurd hm (Nat.not_lt_zero _)
                            | succ fu ih =>
                              intro i29 q29 c29 d29 y29_7 hI hfi hfc hy29_7 hm H locs ls hP hD hS hl
                              have ih29 := ih
                              refine lv_iload hx hb dX12_copy_161 (lv_at hl 0 rfl) ?_
                              refine lv_iload hx hb dX12_copy_163 (lv_at hl 7 rfl) ?_
                              refine lv_icmp_ge (tgt := 195) hx hb dX12_copy_165 (by decide +kernel) (fun c30 => ?_) (fun c30 => ?_)
                              · have f30 := (ti_le (a := n3.toInt) (b := y29_7.toInt) rfl rfl).mp c30
                                refine lv_iconst (v := 0) hx hb dX12_copy_195 (by decide +kernel) ?_
                                refine lv_istore (lv' := [(7, .int 0), (0, .ref o), (1, .int w), (2, .int s1), (3, .int n1), (4, .int w2), (5, .int n2), (6, .int n3)]) hx hb dX12_copy_196 hl (by decide +kernel) rfl (fun ls hl => ?_)
                                have lp31 : ∀ (fu : Nat) (i31 : Nat → Int32) (q31 : Int64) (c31 : Nat → Nat → Int32) (d31 : Nat → Nat → Int64) (y31_7 : Int32), mInv i31 c31 → (∀ k, k ∉ ([] : List Nat) → i31 k = i k) → (∀ k, k ∉ ([] : List Nat) → c31 k = c k) → (0 ≤ y31_7.toInt ∧ y31_7.toInt ≤ 12) → (12 - y31_7.toInt).toNat < fu → ∀ (H : Heap) (locs : List Loc) (ls : Array Slot), va_P D vwCl (mW o a t i31 q31 c31 d31) H → va_D A (mW o a t i31 q31 c31 d31) → va_S A s.heap H locs → lv_has ls 8 [(7, .int y31_7), (0, .ref o), (1, .int w), (2, .int s1), (3, .int n1), (4, .int w2), (5, .int n2), (6, .int n3)] → W p l e (headSpec wm_X12_copy ({ frames := 2, cells := 0, slots := 0, locals := 46 })).room s m ([.ref o, .int w, .int s1, .int n1, .int w2, .int n2, .int n3] : List Value).toArray below meth cd H locs 0 0 (MQ below (va_Qi (fun (r : Int32) (u : MS) => True ∧ mInv u.1 u.2.2.1 ∧ (∀ k, k ∉ ([0] : List Nat) → u.1 k = i k) ∧ (∀ k, k ∉ ([1] : List Nat) → u.2.2.1 k = c k)) (oC D A (fun u : MS => mW o a t u.1 u.2.1 u.2.2.1 u.2.2.2) (fun _ => [])) A) ([.ref o, .int w, .int s1, .int n1, .int w2, .int n2, .int n3] : List Value).toArray s 0 0 A) (F0 m 198 ls []) := by
                                  intro fu
                                  induction fu with
                                  | zero => intro i31 q31 c31 d31 y31_7 hI hfi hfc hy31_7 hm; exact absurd hm (Nat.not_lt_zero _)
                                  | succ fu ih =>
                                    intro i31 q31 c31 d31 y31_7 hI hfi hfc hy31_7 hm H locs ls hP hD hS hl
                                    have ih31 := ih
                                    refine lv_iload hx hb dX12_copy_198 (lv_at hl 0 rfl) ?_
                                    refine lv_iload hx hb dX12_copy_200 (lv_at hl 7 rfl) ?_
                                    refine lv_icmp_ge (tgt := 234) hx hb dX12_copy_202 (by decide +kernel) (fun c32 => ?_) (fun c32 => ?_)
                                    · have f32 := (ti_le (a := n3.toInt) (b := y31_7.toInt) rfl rfl).mp c32
                                      refine lv_iconst (v := 1) hx hb dX12_copy_234 (by decide +kernel) ?_
                                      exact rw_iret (i31, q31, c31, d31) hx hb hr hlocks hS (hK.sub (tys' := []) [] rfl) hP hD dX12_copy_235 ⟨trivial, hI, fr_w hfi (by decide +kernel), fr_w hfc (by decide +kernel)⟩
                                    · have f32 := mt (ti_le (a := n3.toInt) (b := y31_7.toInt) rfl rfl).mpr c32
                                      refine lv_aload_n hx hb dX12_copy_205 rfl (lv_at hl 1 rfl) ?_
                                      refine mget_62 hx hb hts (fun _ h => List.mem_cons_of_mem _ (List.mem_append_right _ h)) hown hK hP (hts (.fieldLink RX12 132 "TalePlayModel" "items" "[J") (List.mem_cons_of_mem _ (List.mem_append_left _ (List.mem_append_right _ (List.mem_of_getElem? (i := 2) rfl))))) dX12_copy_206 ?_
                                      refine lv_bipush (v := 12) hx hb dX12_copy_209 (by decide +kernel) ?_
                                      refine lv_iload hx hb dX12_copy_211 (lv_at hl 5 rfl) ?_
                                      refine lv_imul hx hb dX12_copy_213 ?_
                                      refine lv_topi (fun x33 ex33 => ?_)
                                      have tx33 := ti_mul (a := 12) (b := w2.toInt) ex33 (by decide +kernel) rfl (by omega) (by omega)
                                      refine lv_iload hx hb dX12_copy_214 (lv_at hl 6 rfl) ?_
                                      refine lv_iadd hx hb dX12_copy_216 ?_
                                      refine lv_topi (fun x34 ex34 => ?_)
                                      have tx34 := ti_add (a := (12 * w2.toInt)) (b := n2.toInt) ex34 tx33 rfl (by omega) (by omega)
                                      refine lv_iload hx hb dX12_copy_217 (lv_at hl 0 rfl) ?_
                                      refine lv_iadd hx hb dX12_copy_219 ?_
                                      refine lv_topi (fun x35 ex35 => ?_)
                                      have tx35 := ti_add (a := ((12 * w2.toInt) + n2.toInt)) (b := y31_7.toInt) ex35 tx34 rfl (by omega) (by omega)
                                      refine lv_aload_n hx hb dX12_copy_220 rfl (lv_at hl 1 rfl) ?_
                                      refine mget_68 hx hb hts (fun _ h => List.mem_cons_of_mem _ (List.mem_append_right _ h)) hown hK hP (hts (.fieldLink RX12 148 "TalePlayModel" "held" "[J") (List.mem_cons_of_mem _ (List.mem_append_left _ (List.mem_append_right _ (List.mem_of_getElem? (i := 3) rfl))))) dX12_copy_221 ?_
                                      refine lv_iload hx hb dX12_copy_224 (lv_at hl 0 rfl) ?_
                                      refine mld_68 hx hb hK hP (vp_in_iff.mpr (by have h9 : y31_7.toInt = y31_7.toInt := rfl; omega)) dX12_copy_226 (fun x36 ex36 => ?_)
                                      refine mst_62 hx hb hK hP hD hS (vp_in_iff.mpr (by have h9 : x35.toInt = (((12 * w2.toInt) + n2.toInt) + y31_7.toInt) := tx35; omega)) dX12_copy_227 (fun H locs hP hD hS => ?_)
                                      obtain ⟨x37, ex37⟩ : ∃ y : Int32, y = y31_7 + 1 := ⟨_, rfl⟩
                                      have tx37 := ti_add (a := y31_7.toInt) (b := 1) ex37 rfl (by decide +kernel) (by omega) (by omega)
                                      refine lv_iinc (v := x37) (lv' := [(7, .int x37), (0, .ref o), (1, .int w), (2, .int s1), (3, .int n1), (4, .int w2), (5, .int n2), (6, .int n3)]) hx hb dX12_copy_228 hl (k := 0) rfl (by rw [ex37]; rfl) (by decide +kernel) rfl (fun ls hl => ?_)
                                      refine lv_goto (tgt := 198) hx hb dX12_copy_231 (by decide +kernel) ?_
                                      exact ih31 i31 q31 c31 (updD d31 62 (x35 : Int32).toNatClampNeg x36) x37 hI (fr_w hfi (by decide +kernel)) (fr_w hfc (by decide +kernel)) (show 0 ≤ x37.toInt ∧ x37.toInt ≤ 12 from by have h50 : x37.toInt = (y31_7.toInt + 1) := tx37; omega) (by have h50 : x37.toInt = (y31_7.toInt + 1) := tx37; omega) _ _ _ hP hD hS (lv_sub hl [0, 1, 2, 3, 4, 5, 6, 7] rfl)
                                exact lp31 _ i29 q29 c29 d29 (0 : Int32) hI (fr_w hfi (by decide +kernel)) (fr_w hfc (by decide +kernel)) (show 0 ≤ (0 : Int32).toInt ∧ (0 : Int32).toInt ≤ 12 from by decide +kernel) (Nat.lt_succ_self _) _ _ _ hP hD hS (lv_sub hl [0, 1, 2, 3, 4, 5, 6, 7] rfl)
                              · have f30 := mt (ti_le (a := n3.toInt) (b := y29_7.toInt) rfl rfl).mpr c30
                                refine lv_aload_n hx hb dX12_copy_168 rfl (lv_at hl 1 rfl) ?_
                                refine mget_68 hx hb hts (fun _ h => List.mem_cons_of_mem _ (List.mem_append_right _ h)) hown hK hP (hts (.fieldLink RX12 148 "TalePlayModel" "held" "[J") (List.mem_cons_of_mem _ (List.mem_append_left _ (List.mem_append_right _ (List.mem_of_getElem? (i := 3) rfl))))) dX12_copy_169 ?_
                                refine lv_iload hx hb dX12_copy_172 (lv_at hl 0 rfl) ?_
                                refine lv_aload_n hx hb dX12_copy_174 rfl (lv_at hl 1 rfl) ?_
                                refine mget_62 hx hb hts (fun _ h => List.mem_cons_of_mem _ (List.mem_append_right _ h)) hown hK hP (hts (.fieldLink RX12 132 "TalePlayModel" "items" "[J") (List.mem_cons_of_mem _ (List.mem_append_left _ (List.mem_append_right _ (List.mem_of_getElem? (i := 2) rfl))))) dX12_copy_175 ?_
                                refine lv_bipush (v := 12) hx hb dX12_copy_178 (by decide +kernel) ?_
                                refine lv_iload_n hx hb dX12_copy_180 rfl (lv_at hl 2 rfl) ?_
                                refine lv_imul hx hb dX12_copy_181 ?_
                                refine lv_topi (fun x38 ex38 => ?_)
                                have tx38 := ti_mul (a := 12) (b := w.toInt) ex38 (by decide +kernel) rfl (by omega) (by omega)
                                refine lv_iload_n hx hb dX12_copy_182 rfl (lv_at hl 4 rfl) ?_
                                refine lv_iadd hx hb dX12_copy_183 ?_
                                refine lv_topi (fun x39 ex39 => ?_)
                                have tx39 := ti_add (a := (12 * w.toInt)) (b := n1.toInt) ex39 tx38 rfl (by omega) (by omega)
                                refine lv_iload hx hb dX12_copy_184 (lv_at hl 0 rfl) ?_
                                refine lv_iadd hx hb dX12_copy_186 ?_
                                refine lv_topi (fun x40 ex40 => ?_)
                                have tx40 := ti_add (a := ((12 * w.toInt) + n1.toInt)) (b := y29_7.toInt) ex40 tx39 rfl (by omega) (by omega)
                                refine mld_62 hx hb hK hP (vp_in_iff.mpr (by have h9 : x40.toInt = (((12 * w.toInt) + n1.toInt) + y29_7.toInt) := tx40; omega)) dX12_copy_187 (fun x41 ex41 => ?_)
                                refine mst_68 hx hb hK hP hD hS (vp_in_iff.mpr (by have h9 : y29_7.toInt = y29_7.toInt := rfl; omega)) dX12_copy_188 (fun H locs hP hD hS => ?_)
                                obtain ⟨x42, ex42⟩ : ∃ y : Int32, y = y29_7 + 1 := ⟨_, rfl⟩
                                have tx42 := ti_add (a := y29_7.toInt) (b := 1) ex42 rfl (by decide +kernel) (by omega) (by omega)
                                refine lv_iinc (v := x42) (lv' := [(7, .int x42), (0, .ref o), (1, .int w), (2, .int s1), (3, .int n1), (4, .int w2), (5, .int n2), (6, .int n3)]) hx hb dX12_copy_189 hl (k := 0) rfl (by rw [ex42]; rfl) (by decide +kernel) rfl (fun ls hl => ?_)
                                refine lv_goto (tgt := 161) hx hb dX12_copy_192 (by decide +kernel) ?_
                                exact ih29 i29 q29 c29 (updD d29 68 (y29_7 : Int32).toNatClampNeg x41) x42 hI (fr_w hfi (by decide +kernel)) (fr_w hfc (by decide +kernel)) (show 0 ≤ x42.toInt ∧ x42.toInt ≤ 12 from by have h50 : x42.toInt = (y29_7.toInt + 1) := tx42; omega) (by have h50 : x42.toInt = (y29_7.toInt + 1) := tx42; omega) _ _ _ hP hD hS (lv_sub hl [0, 1, 2, 3, 4, 5, 6, 7] rfl)
                          exact lp29 _ i q c d (0 : Int32) hI (fr_w hfi (by decide +kernel)) (fr_w hfc (by decide +kernel)) (show 0 ≤ (0 : Int32).toInt ∧ (0 : Int32).toInt ≤ 12 from by decide +kernel) (Nat.lt_succ_self _) _ _ _ hP hD hS (lv_sub hl [0, 1, 2, 3, 4, 5, 6, 7] rfl)
                        · have f28 := mt (lc_le (a := (n2.toInt + n3.toInt)) (b := x27.toInt) tx26 ((Int32.toInt_toInt64 x27).trans rfl)).mpr c28
                          refine lv_aload_n hx hb dX12_copy_152 rfl (lv_at hl 0 rfl) ?_
                          refine lv_iconst (v := 2) hx hb dX12_copy_153 (by decide +kernel) ?_
                          refine al_calli (va_runV (As := [.int 2]) (rest := []) ⟨hx, hb, hml, hown, hts⟩ (s_X12_meets l D H.size o a t i q c d 2 hI (show 1 ≤ 2 ∧ 2 ≤ 6 from by decide +kernel)) (cwV 1 hts gm_X12_copy_X12_meets rfl rfl rfl (by decide +kernel) ⟨Nat.le_of_ble_eq_true rfl, Nat.le_of_ble_eq_true rfl⟩) (pB_V hK hP hD (ci := 12) (q0 := 0) rfl rfl) rfl rfl hl.1 rfl (lv_room (Nat.le_of_ble_eq_true rfl)) dX12_copy_154 ⟨Nat.le_of_ble_eq_true rfl, Nat.le_of_ble_eq_true rfl⟩) hS hA hP hD (fun r43 u43 H locs hw43 hP hD hS => ?_)
                          obtain ⟨i43, q43, c43, d43⟩ := u43
                          have hw43 : r43 = (-3) ∧ mInv i43 c43 ∧ (∀ k, k ∉ ([0] : List Nat) → i43 k = i k) ∧ (∀ k, k ∉ ([1] : List Nat) → c43 k = c k) := hw43
                          obtain ⟨hw43, hI, hei43, hec43⟩ := hw43
                          have hfi : ∀ k, k ∉ ([0] : List Nat) → i43 k = i k := fr_z hfi hei43 (by decide +kernel) (by decide +kernel)
                          have hfc : ∀ k, k ∉ ([1] : List Nat) → c43 k = c k := fr_z hfc hec43 (by decide +kernel) (by decide +kernel)
                          have hP : va_P D vwCl (mW o a t i43 q43 c43 d43) H := hP
                          have hD : va_D A (mW o a t i43 q43 c43 d43) := hD
                          have hw43 : r43 = (-3) := hw43
                          subst hw43
                          exact rw_iret (i43, q43, c43, d43) hx hb hr hlocks hS (hK.sub (tys' := []) [] rfl) hP hD dX12_copy_157 ⟨trivial, hI, fr_w hfi (by decide +kernel), fr_w hfc (by decide +kernel)⟩
              · have f15 := (ti_eq (a := x14.toInt) (b := 0) rfl (by decide +kernel)).mp c15
                refine lv_aload_n hx hb dX12_copy_96 rfl (lv_at hl 0 rfl) ?_
                refine lv_iconst (v := 1) hx hb dX12_copy_97 (by decide +kernel) ?_
                refine al_calli (va_runV (As := [.int 1]) (rest := []) ⟨hx, hb, hml, hown, hts⟩ (s_X12_meets l D H.size o a t i q c d 1 hI (show 1 ≤ 1 ∧ 1 ≤ 6 from by decide +kernel)) (cwV 1 hts gm_X12_copy_X12_meets rfl rfl rfl (by decide +kernel) ⟨Nat.le_of_ble_eq_true rfl, Nat.le_of_ble_eq_true rfl⟩) (pB_V hK hP hD (ci := 12) (q0 := 0) rfl rfl) rfl rfl hl.1 rfl (lv_room (Nat.le_of_ble_eq_true rfl)) dX12_copy_98 ⟨Nat.le_of_ble_eq_true rfl, Nat.le_of_ble_eq_true rfl⟩) hS hA hP hD (fun r44 u44 H locs hw44 hP hD hS => ?_)
                obtain ⟨i44, q44, c44, d44⟩ := u44
                have hw44 : r44 = (-3) ∧ mInv i44 c44 ∧ (∀ k, k ∉ ([0] : List Nat) → i44 k = i k) ∧ (∀ k, k ∉ ([1] : List Nat) → c44 k = c k) := hw44
                obtain ⟨hw44, hI, hei44, hec44⟩ := hw44
                have hfi : ∀ k, k ∉ ([0] : List Nat) → i44 k = i k := fr_z hfi hei44 (by decide +kernel) (by decide +kernel)
                have hfc : ∀ k, k ∉ ([1] : List Nat) → c44 k = c k := fr_z hfc hec44 (by decide +kernel) (by decide +kernel)
                have hP : va_P D vwCl (mW o a t i44 q44 c44 d44) H := hP
                have hD : va_D A (mW o a t i44 q44 c44 d44) := hD
                have hw44 : r44 = (-3) := hw44
                subst hw44
                exact rw_iret (i44, q44, c44, d44) hx hb hr hlocks hS (hK.sub (tys' := []) [] rfl) hP hD dX12_copy_101 ⟨trivial, hI, fr_w hfi (by decide +kernel), fr_w hfc (by decide +kernel)⟩
          refine lv_if_eq (tgt := 77) hx hb dX12_copy_57 (by decide +kernel) (fun c45 => ?_) (fun c45 => ?_)
          · have f45 := (ti_eq (a := x9.toInt) (b := 0) rfl (by decide +kernel)).mp c45
            exact jn10    _ _ _ hP hD hS (lv_sub hl [0, 1, 2, 3, 4, 5, 6] rfl)
          · have f45 := mt (ti_eq (a := x9.toInt) (b := 0) rfl (by decide +kernel)).mpr c45
            refine lv_aload_n hx hb dX12_copy_60 rfl (lv_at hl 0 rfl) ?_
            refine mget_60 hx hb hts (fun _ h => List.mem_cons_of_mem _ (List.mem_append_right _ h)) hown hK hP (hts (.fieldLink RX12 126 "TalePlayModel" "lineSort" "[I") (List.mem_cons_of_mem _ (List.mem_append_left _ (List.mem_append_right _ (List.mem_of_getElem? (i := 4) rfl))))) dX12_copy_61 ?_
            refine lv_iload hx hb dX12_copy_64 (lv_at hl 4 rfl) ?_
            refine mld_60 hx hb hK hP (vp_in_iff.mpr (by have h9 : w2.toInt = w2.toInt := rfl; omega)) dX12_copy_66 (fun x46 ex46 => ?_)
            have rx46 : 0 ≤ x46.toInt ∧ x46.toInt ≤ 3 := by rw [ex46]; exact hI.2 60 _
            refine lv_iload_n hx hb dX12_copy_67 rfl (lv_at hl 2 rfl) ?_
            refine lv_icmp_eq (tgt := 77) hx hb dX12_copy_68 (by decide +kernel) (fun c47 => ?_) (fun c47 => ?_)
            · have f47 := (ti_eq (a := x46.toInt) (b := s1.toInt) rfl rfl).mp c47
              exact jn10    _ _ _ hP hD hS (lv_sub hl [0, 1, 2, 3, 4, 5, 6] rfl)
            · have f47 := mt (ti_eq (a := x46.toInt) (b := s1.toInt) rfl rfl).mpr c47
              refine lv_aload_n hx hb dX12_copy_71 rfl (lv_at hl 0 rfl) ?_
              refine lv_iconst (v := 3) hx hb dX12_copy_72 (by decide +kernel) ?_
              refine al_calli (va_runV (As := [.int 3]) (rest := []) ⟨hx, hb, hml, hown, hts⟩ (s_X12_meets l D H.size o a t i q c d 3 hI (show 1 ≤ 3 ∧ 3 ≤ 6 from by decide +kernel)) (cwV 1 hts gm_X12_copy_X12_meets rfl rfl rfl (by decide +kernel) ⟨Nat.le_of_ble_eq_true rfl, Nat.le_of_ble_eq_true rfl⟩) (pB_V hK hP hD (ci := 12) (q0 := 0) rfl rfl) rfl rfl hl.1 rfl (lv_room (Nat.le_of_ble_eq_true rfl)) dX12_copy_73 ⟨Nat.le_of_ble_eq_true rfl, Nat.le_of_ble_eq_true rfl⟩) hS hA hP hD (fun r48 u48 H locs hw48 hP hD hS => ?_)
              obtain ⟨i48, q48, c48, d48⟩ := u48
              have hw48 : r48 = (-3) ∧ mInv i48 c48 ∧ (∀ k, k ∉ ([0] : List Nat) → i48 k = i k) ∧ (∀ k, k ∉ ([1] : List Nat) → c48 k = c k) := hw48
              obtain ⟨hw48, hI, hei48, hec48⟩ := hw48
              have hfi : ∀ k, k ∉ ([0] : List Nat) → i48 k = i k := fr_z hfi hei48 (by decide +kernel) (by decide +kernel)
              have hfc : ∀ k, k ∉ ([1] : List Nat) → c48 k = c k := fr_z hfc hec48 (by decide +kernel) (by decide +kernel)
              have hP : va_P D vwCl (mW o a t i48 q48 c48 d48) H := hP
              have hD : va_D A (mW o a t i48 q48 c48 d48) := hD
              have hw48 : r48 = (-3) := hw48
              subst hw48
              exact rw_iret (i48, q48, c48, d48) hx hb hr hlocks hS (hK.sub (tys' := []) [] rfl) hP hD dX12_copy_76 ⟨trivial, hI, fr_w hfi (by decide +kernel), fr_w hfc (by decide +kernel)⟩
        refine lv_if_eq (tgt := 50) hx hb dX12_copy_37 (by decide +kernel) (fun c49 => ?_) (fun c49 => ?_)
        · have f49 := (ti_eq (a := x7.toInt) (b := 0) rfl (by decide +kernel)).mp c49
          exact jn8    _ _ _ hP hD hS (lv_sub hl [0, 1, 2, 3, 4, 5, 6] rfl)
        · have f49 := mt (ti_eq (a := x7.toInt) (b := 0) rfl (by decide +kernel)).mpr c49
          refine lv_aload_n hx hb dX12_copy_40 rfl (lv_at hl 0 rfl) ?_
          refine mget_60 hx hb hts (fun _ h => List.mem_cons_of_mem _ (List.mem_append_right _ h)) hown hK hP (hts (.fieldLink RX12 126 "TalePlayModel" "lineSort" "[I") (List.mem_cons_of_mem _ (List.mem_append_left _ (List.mem_append_right _ (List.mem_of_getElem? (i := 4) rfl))))) dX12_copy_41 ?_
          refine lv_iload_n hx hb dX12_copy_44 rfl (lv_at hl 1 rfl) ?_
          refine mld_60 hx hb hK hP (vp_in_iff.mpr (by have h9 : w.toInt = w.toInt := rfl; omega)) dX12_copy_45 (fun x50 ex50 => ?_)
          have rx50 : 0 ≤ x50.toInt ∧ x50.toInt ≤ 3 := by rw [ex50]; exact hI.2 60 _
          refine lv_iload_n hx hb dX12_copy_46 rfl (lv_at hl 2 rfl) ?_
          refine lv_icmp_ne (tgt := 71) hx hb dX12_copy_47 (by decide +kernel) (fun c51 => ?_) (fun c51 => ?_)
          · have f51 := mt (ti_eq (a := x50.toInt) (b := s1.toInt) rfl rfl).mpr c51
            refine lv_aload_n hx hb dX12_copy_71 rfl (lv_at hl 0 rfl) ?_
            refine lv_iconst (v := 3) hx hb dX12_copy_72 (by decide +kernel) ?_
            refine al_calli (va_runV (As := [.int 3]) (rest := []) ⟨hx, hb, hml, hown, hts⟩ (s_X12_meets l D H.size o a t i q c d 3 hI (show 1 ≤ 3 ∧ 3 ≤ 6 from by decide +kernel)) (cwV 1 hts gm_X12_copy_X12_meets rfl rfl rfl (by decide +kernel) ⟨Nat.le_of_ble_eq_true rfl, Nat.le_of_ble_eq_true rfl⟩) (pB_V hK hP hD (ci := 12) (q0 := 0) rfl rfl) rfl rfl hl.1 rfl (lv_room (Nat.le_of_ble_eq_true rfl)) dX12_copy_73 ⟨Nat.le_of_ble_eq_true rfl, Nat.le_of_ble_eq_true rfl⟩) hS hA hP hD (fun r52 u52 H locs hw52 hP hD hS => ?_)
            obtain ⟨i52, q52, c52, d52⟩ := u52
            have hw52 : r52 = (-3) ∧ mInv i52 c52 ∧ (∀ k, k ∉ ([0] : List Nat) → i52 k = i k) ∧ (∀ k, k ∉ ([1] : List Nat) → c52 k = c k) := hw52
            obtain ⟨hw52, hI, hei52, hec52⟩ := hw52
            have hfi : ∀ k, k ∉ ([0] : List Nat) → i52 k = i k := fr_z hfi hei52 (by decide +kernel) (by decide +kernel)
            have hfc : ∀ k, k ∉ ([1] : List Nat) → c52 k = c k := fr_z hfc hec52 (by decide +kernel) (by decide +kernel)
            have hP : va_P D vwCl (mW o a t i52 q52 c52 d52) H := hP
            have hD : va_D A (mW o a t i52 q52 c52 d52) := hD
            have hw52 : r52 = (-3) := hw52
            subst hw52
            exact rw_iret (i52, q52, c52, d52) hx hb hr hlocks hS (hK.sub (tys' := []) [] rfl) hP hD dX12_copy_76 ⟨trivial, hI, fr_w hfi (by decide +kernel), fr_w hfc (by decide +kernel)⟩
          · have f51 := (ti_eq (a := x50.toInt) (b := s1.toInt) rfl rfl).mp c51
            exact jn8    _ _ _ hP hD hS (lv_sub hl [0, 1, 2, 3, 4, 5, 6] rfl)
      · have f6 := fl_f hw5 c6
        refine lv_iconst (v := (-1)) hx hb dX12_copy_29 (by decide +kernel) ?_
        exact rw_iret (i, q, c, d) hx hb hr hlocks hS (hK.sub (tys' := []) [] rfl) hP hD dX12_copy_30 ⟨trivial, hI, fr_w hfi (by decide +kernel), fr_w hfc (by decide +kernel)⟩

def wm_X12_cast : List Cond := .code yX12_cast cX12_cast 4 (some .int) :: (([.constantLong RX12 170 (5), .methodLink RX12 166 yX12_in, .static yX12_in, .initialized RX12, .code yX12_in cX12_in 6 (some .boolean), .fieldLink RX12 450 "TalePlayModel" "casts" "I", .fieldLink RX12 139 "TalePlayModel" "castSort" "[I", .fieldLink RX12 142 "TalePlayModel" "castMany" "[I", .fieldLink RX12 145 "TalePlayModel" "roles" "[I", .methodLink RX12 233 yX12_meets, .instanceMethod yX12_meets, .selects RX12 yX12_meets yX12_meets, .code yX12_meets cX12_meets 2 (some .int), .fieldLink RX12 161 "TalePlayModel" "latest" "I", .fieldLink RX12 7 "TalePlayModel" "came" "[I"] : List Cond) ++ wsX120)
set_option maxRecDepth 20000 in
theorem gm_X12_cast_X12_in : GoodIn wm_X12_cast (va_wsS RX12 166 yX12_in wm_X12_in) := goodIn_w (List.forall_mem_append.mpr ⟨List.forall_mem_cons.mpr ⟨List.mem_cons_of_mem _ (List.mem_append_left _ (List.mem_of_getElem? (i := 1) rfl)), List.forall_mem_cons.mpr ⟨List.mem_cons_of_mem _ (List.mem_append_left _ (List.mem_of_getElem? (i := 2) rfl)), List.forall_mem_cons.mpr ⟨List.mem_cons_of_mem _ (List.mem_append_left _ (List.mem_of_getElem? (i := 3) rfl)), (fun _ h => absurd h List.not_mem_nil)⟩⟩⟩, List.forall_mem_cons.mpr ⟨List.mem_cons_of_mem _ (List.mem_append_left _ (List.mem_of_getElem? (i := 4) rfl)), (fun _ h => absurd h List.not_mem_nil)⟩⟩) (by decide +kernel)
set_option maxRecDepth 20000 in
theorem gm_X12_cast_X12_meets : GoodIn wm_X12_cast (wsV RX12 233 RX12 yX12_meets wm_X12_meets) := goodIn_w (List.forall_mem_append.mpr ⟨List.forall_mem_cons.mpr ⟨List.mem_cons_of_mem _ (List.mem_append_left _ (List.mem_of_getElem? (i := 9) rfl)), List.forall_mem_cons.mpr ⟨List.mem_cons_of_mem _ (List.mem_append_left _ (List.mem_of_getElem? (i := 10) rfl)), List.forall_mem_cons.mpr ⟨List.mem_cons_of_mem _ (List.mem_append_left _ (List.mem_of_getElem? (i := 11) rfl)), List.forall_mem_cons.mpr ⟨List.mem_cons_of_mem _ (List.mem_append_left _ (List.mem_of_getElem? (i := 3) rfl)), (fun _ h => absurd h List.not_mem_nil)⟩⟩⟩⟩, List.forall_mem_cons.mpr ⟨List.mem_cons_of_mem _ (List.mem_append_left _ (List.mem_of_getElem? (i := 12) rfl)), List.forall_mem_append.mpr ⟨List.forall_mem_cons.mpr ⟨List.mem_cons_of_mem _ (List.mem_append_left _ (List.mem_of_getElem? (i := 13) rfl)), List.forall_mem_cons.mpr ⟨List.mem_cons_of_mem _ (List.mem_append_left _ (List.mem_of_getElem? (i := 14) rfl)), (fun _ h => absurd h List.not_mem_nil)⟩⟩, (fun _ h => List.mem_cons_of_mem _ (List.mem_append_right _ h))⟩⟩⟩) (by decide +kernel)
def wm_X12_role : List Cond := .code yX12_role cX12_role 4 (some .int) :: ((([.fieldLink RX12 450 "TalePlayModel" "casts" "I", .methodLink RX12 166 yX12_in, .static yX12_in, .initialized RX12, .code yX12_in cX12_in 6 (some .boolean), .fieldLink RX12 142 "TalePlayModel" "castMany" "[I", .fieldLink RX12 145 "TalePlayModel" "roles" "[I", .fieldLink RX12 139 "TalePlayModel" "castSort" "[I", .methodLink RX12 184 yX12_isOf, .instanceMethod yX12_isOf, .selects RX12 yX12_isOf yX12_isOf, .code yX12_isOf cX12_isOf 4 (some .boolean), .fieldLink RX12 19 "TalePlayModel" "kindOf" "[I", .fieldLink RX12 13 "TalePlayModel" "parentOf" "[I", .methodLink RX12 233 yX12_meets, .instanceMethod yX12_meets] : List Cond) ++ ([.selects RX12 yX12_meets yX12_meets, .code yX12_meets cX12_meets 2 (some .int), .fieldLink RX12 161 "TalePlayModel" "latest" "I", .fieldLink RX12 7 "TalePlayModel" "came" "[I", .methodLink RX12 180 yX12_isObject, .instanceMethod yX12_isObject, .selects RX12 yX12_isObject yX12_isObject, .code yX12_isObject cX12_isObject 2 (some .boolean), .fieldLink RX12 177 "TalePlayModel" "objects" "I"] : List Cond)) ++ wsX120)
set_option maxRecDepth 20000 in
theorem gm_X12_role_X12_in : GoodIn wm_X12_role (va_wsS RX12 166 yX12_in wm_X12_in) := goodIn_w (List.forall_mem_append.mpr ⟨List.forall_mem_cons.mpr ⟨List.mem_cons_of_mem _ (List.mem_append_left _ (List.mem_append_left _ (List.mem_of_getElem? (i := 1) rfl))), List.forall_mem_cons.mpr ⟨List.mem_cons_of_mem _ (List.mem_append_left _ (List.mem_append_left _ (List.mem_of_getElem? (i := 2) rfl))), List.forall_mem_cons.mpr ⟨List.mem_cons_of_mem _ (List.mem_append_left _ (List.mem_append_left _ (List.mem_of_getElem? (i := 3) rfl))), (fun _ h => absurd h List.not_mem_nil)⟩⟩⟩, List.forall_mem_cons.mpr ⟨List.mem_cons_of_mem _ (List.mem_append_left _ (List.mem_append_left _ (List.mem_of_getElem? (i := 4) rfl))), (fun _ h => absurd h List.not_mem_nil)⟩⟩) (by decide +kernel)
set_option maxRecDepth 20000 in
theorem gm_X12_role_X12_isOf : GoodIn wm_X12_role (wsV RX12 184 RX12 yX12_isOf wm_X12_isOf) := goodIn_w (List.forall_mem_append.mpr ⟨List.forall_mem_cons.mpr ⟨List.mem_cons_of_mem _ (List.mem_append_left _ (List.mem_append_left _ (List.mem_of_getElem? (i := 8) rfl))), List.forall_mem_cons.mpr ⟨List.mem_cons_of_mem _ (List.mem_append_left _ (List.mem_append_left _ (List.mem_of_getElem? (i := 9) rfl))), List.forall_mem_cons.mpr ⟨List.mem_cons_of_mem _ (List.mem_append_left _ (List.mem_append_left _ (List.mem_of_getElem? (i := 10) rfl))), List.forall_mem_cons.mpr ⟨List.mem_cons_of_mem _ (List.mem_append_left _ (List.mem_append_left _ (List.mem_of_getElem? (i := 3) rfl))), (fun _ h => absurd h List.not_mem_nil)⟩⟩⟩⟩, List.forall_mem_cons.mpr ⟨List.mem_cons_of_mem _ (List.mem_append_left _ (List.mem_append_left _ (List.mem_of_getElem? (i := 11) rfl))), List.forall_mem_append.mpr ⟨List.forall_mem_cons.mpr ⟨List.mem_cons_of_mem _ (List.mem_append_left _ (List.mem_append_left _ (List.mem_of_getElem? (i := 12) rfl))), List.forall_mem_cons.mpr ⟨List.mem_cons_of_mem _ (List.mem_append_left _ (List.mem_append_left _ (List.mem_of_getElem? (i := 13) rfl))), (fun _ h => absurd h List.not_mem_nil)⟩⟩, (fun _ h => List.mem_cons_of_mem _ (List.mem_append_right _ h))⟩⟩⟩) (by decide +kernel)
set_option maxRecDepth 20000 in
theorem gm_X12_role_X12_meets : GoodIn wm_X12_role (wsV RX12 233 RX12 yX12_meets wm_X12_meets) := goodIn_w (List.forall_mem_append.mpr ⟨List.forall_mem_cons.mpr ⟨List.mem_cons_of_mem _ (List.mem_append_left _ (List.mem_append_left _ (List.mem_of_getElem? (i := 14) rfl))), List.forall_mem_cons.mpr ⟨List.mem_cons_of_mem _ (List.mem_append_left _ (List.mem_append_left _ (List.mem_of_getElem? (i := 15) rfl))), List.forall_mem_cons.mpr ⟨List.mem_cons_of_mem _ (List.mem_append_left _ (List.mem_append_right _ (List.mem_of_getElem? (i := 0) rfl))), List.forall_mem_cons.mpr ⟨List.mem_cons_of_mem _ (List.mem_append_left _ (List.mem_append_left _ (List.mem_of_getElem? (i := 3) rfl))), (fun _ h => absurd h List.not_mem_nil)⟩⟩⟩⟩, List.forall_mem_cons.mpr ⟨List.mem_cons_of_mem _ (List.mem_append_left _ (List.mem_append_right _ (List.mem_of_getElem? (i := 1) rfl))), List.forall_mem_append.mpr ⟨List.forall_mem_cons.mpr ⟨List.mem_cons_of_mem _ (List.mem_append_left _ (List.mem_append_right _ (List.mem_of_getElem? (i := 2) rfl))), List.forall_mem_cons.mpr ⟨List.mem_cons_of_mem _ (List.mem_append_left _ (List.mem_append_right _ (List.mem_of_getElem? (i := 3) rfl))), (fun _ h => absurd h List.not_mem_nil)⟩⟩, (fun _ h => List.mem_cons_of_mem _ (List.mem_append_right _ h))⟩⟩⟩) (by decide +kernel)
set_option maxRecDepth 20000 in
theorem gm_X12_role_X12_isObject : GoodIn wm_X12_role (wsV RX12 180 RX12 yX12_isObject wm_X12_isObject) := goodIn_w (List.forall_mem_append.mpr ⟨List.forall_mem_cons.mpr ⟨List.mem_cons_of_mem _ (List.mem_append_left _ (List.mem_append_right _ (List.mem_of_getElem? (i := 4) rfl))), List.forall_mem_cons.mpr ⟨List.mem_cons_of_mem _ (List.mem_append_left _ (List.mem_append_right _ (List.mem_of_getElem? (i := 5) rfl))), List.forall_mem_cons.mpr ⟨List.mem_cons_of_mem _ (List.mem_append_left _ (List.mem_append_right _ (List.mem_of_getElem? (i := 6) rfl))), List.forall_mem_cons.mpr ⟨List.mem_cons_of_mem _ (List.mem_append_left _ (List.mem_append_left _ (List.mem_of_getElem? (i := 3) rfl))), (fun _ h => absurd h List.not_mem_nil)⟩⟩⟩⟩, List.forall_mem_cons.mpr ⟨List.mem_cons_of_mem _ (List.mem_append_left _ (List.mem_append_right _ (List.mem_of_getElem? (i := 7) rfl))), List.forall_mem_append.mpr ⟨List.forall_mem_cons.mpr ⟨List.mem_cons_of_mem _ (List.mem_append_left _ (List.mem_append_right _ (List.mem_of_getElem? (i := 8) rfl))), List.forall_mem_cons.mpr ⟨List.mem_cons_of_mem _ (List.mem_append_left _ (List.mem_append_left _ (List.mem_of_getElem? (i := 1) rfl))), List.forall_mem_cons.mpr ⟨List.mem_cons_of_mem _ (List.mem_append_left _ (List.mem_append_left _ (List.mem_of_getElem? (i := 2) rfl))), List.forall_mem_cons.mpr ⟨List.mem_cons_of_mem _ (List.mem_append_left _ (List.mem_append_left _ (List.mem_of_getElem? (i := 3) rfl))), List.forall_mem_cons.mpr ⟨List.mem_cons_of_mem _ (List.mem_append_left _ (List.mem_append_left _ (List.mem_of_getElem? (i := 4) rfl))), (fun _ h => absurd h List.not_mem_nil)⟩⟩⟩⟩⟩, (fun _ h => List.mem_cons_of_mem _ (List.mem_append_right _ h))⟩⟩⟩) (by decide +kernel)
set_option maxHeartbeats 4000000 in
set_option maxRecDepth 100000 in
theorem s_X12_role (l : Launch) (D : va_G) (sz : Nat) (o : Nat) (a : Nat → Nat) (t : Nat → ClassId) (i : Nat → Int32) (q : Int64) (c : Nat → Nat → Int32) (d : Nat → Nat → Int64) (w : Int32) (n1 : Int32) (w2 : Int32) (hI : mInv i c) : Met l yX12_role wm_X12_role ({ frames := 2, cells := 0, slots := 0, locals := 46 }) (va_Pc [.ref o, .int w, .int n1, .int w2] (pB D sz (mW o a t i q c d) (mT t))) (va_Qi (fun (r : Int32) (u : MS) => True ∧ mInv u.1 u.2.2.1 ∧ (∀ k, k ∉ ([0] : List Nat) → u.1 k = i k) ∧ (∀ k, k ∉ ([1, 67] : List Nat) → u.2.2.1 k = c k)) (oC D (va_A (mW o a t i q c d) sz) (fun u : MS => mW o a t u.1 u.2.1 u.2.2.1 u.2.2.2) (fun _ => [])) (va_A (mW o a t i q c d) sz)) 0 0 (va_A (mW o a t i q c d) sz) := by
  refine Met.ofW (cc := cX12_role) (maxL := 4) (ret := (some .int)) (by decide +kernel) rfl ?_
  intro p e s m args below meth cd s₁ B hml hv
  obtain ⟨rfl, hsz, hP, hK, hD0⟩ := hv
  have hx := B.exec
  have hb := B.bytes
  have hr := B.returns
  have hts := atoms_spec (ws := wm_X12_role) B.pre
  have hown : s.vm.findClass RX12 = some m.cls := findClass_of_methodNamed B.named
  have hlocks := B.notSynchronized
  subst hsz
  have hD := hD0.self (sz := s.heap.size)
  generalize hAe : va_A (mW o a t i q c d) s.heap.size = A at hD ⊢
  have hA : ∀ q : Nat, s.heap.size ≤ q → A q := fun q h => by rw [← hAe]; exact Or.inr h
  have hS : va_S A s.heap s.heap [] := va_S.rf
  have hfi : ∀ k, k ∉ ([] : List Nat) → i k = i k := fun _ _ => rfl
  have hfc : ∀ k, k ∉ ([] : List Nat) → c k = c k := fun _ _ => rfl
  have hl := lv_entry ([.ref o, .int w, .int n1, .int w2]) (n := 4) (Nat.le_of_ble_eq_true rfl)
  rw [lg_entry_eq]
  generalize (lg_sl ([.ref o, .int w, .int n1, .int w2]) ++ List.replicate (4 - (lg_sl ([.ref o, .int w, .int n1, .int w2])).length) Slot.unset).toArray = ls at hl ⊢
  have hl : lv_has ls 4 [(0, .ref o), (1, .int w), (2, .int n1), (3, .int w2)] := hl
  refine lv_iload_n hx hb dX12_role_0 rfl (lv_at hl 1 rfl) ?_
  refine lv_i2l (v := w.toInt64) hx hb dX12_role_1 rfl ?_
  refine lv_lconst (v := 0) hx hb dX12_role_2 (by decide +kernel) ?_
  refine lv_aload_n hx hb dX12_role_3 rfl (lv_at hl 0 rfl) ?_
  refine mget_64 (v := (i 64)) rfl hx hb hts (fun _ h => List.mem_cons_of_mem _ (List.mem_append_right _ h)) hown hK hP (hts (.fieldLink RX12 450 "TalePlayModel" "casts" "I") (List.mem_cons_of_mem _ (List.mem_append_left _ (List.mem_append_left _ (List.mem_of_getElem? (i := 0) rfl))))) dX12_role_4 ?_
  have rb64_i : 0 ≤ (i 64).toInt ∧ (i 64).toInt ≤ 10 := hI.1 64
  refine lv_iconst (v := 1) hx hb dX12_role_7 (by decide +kernel) ?_
  refine lv_isub hx hb dX12_role_8 ?_
  refine lv_topi (fun x1 ex1 => ?_)
  have tx1 := ti_sub (a := (i 64).toInt) (b := 1) ex1 rfl (by decide +kernel) (by omega) (by omega)
  refine lv_i2l (v := x1.toInt64) hx hb dX12_role_9 rfl ?_
  have hPc := hP.sub (ws' := []) [] rfl
  have hKc := hK.sub (tys' := []) [] rfl
  refine ro_calli (va_runS (As := [.long w.toInt64, .long 0, .long x1.toInt64]) (rest := []) ⟨hx, hb, hml, hown, hts⟩ (c_X12_in l D s.heap.size w.toInt64 0 x1.toInt64 w.toInt 0 ((i 64).toInt - 1) ((Int32.toInt_toInt64 w).trans rfl) (by decide +kernel) ((Int32.toInt_toInt64 x1).trans tx1)) (va_cwS 3 hts gm_X12_role_X12_in rfl rfl rfl (by decide +kernel) ⟨Nat.le_of_ble_eq_true rfl, Nat.le_of_ble_eq_true rfl⟩) (pA_S hKc hPc) rfl rfl hl.1 rfl (lv_room (Nat.le_of_ble_eq_true rfl)) dX12_role_10 ⟨Nat.le_of_ble_eq_true rfl, Nat.le_of_ble_eq_true rfl⟩) hS hA hP (fun r2 u2 H locs hw2 hP hS => ?_)
  have hw2 : r2 = if (0 ≤ w.toInt ∧ w.toInt ≤ ((i 64).toInt - 1)) then 1 else 0 := hw2
  refine lv_if_eq (tgt := 30) hx hb dX12_role_13 (by decide +kernel) (fun c3 => ?_) (fun c3 => ?_)
  · have f3 := fl_f hw2 c3
    refine lv_iconst (v := (-1)) hx hb dX12_role_30 (by decide +kernel) ?_
    exact rw_iret (i, q, c, d) hx hb hr hlocks hS (hK.sub (tys' := []) [] rfl) hP hD dX12_role_31 ⟨trivial, hI, fr_w hfi (by decide +kernel), fr_w hfc (by decide +kernel)⟩
  · have f3 := fl_t hw2 c3
    refine lv_iload_n hx hb dX12_role_16 rfl (lv_at hl 3 rfl) ?_
    refine lv_bipush (v := (-9)) hx hb dX12_role_17 (by decide +kernel) ?_
    have jn4 : (w2.toInt = -9 ∨ (0 ≤ w2.toInt ∧ w2.toInt ≤ 29)) → ∀ (H : Heap) (locs : List Loc) (ls : Array Slot), va_P D vwCl (mW o a t i q c d) H → va_D A (mW o a t i q c d) → va_S A s.heap H locs → lv_has ls 4 [(0, .ref o), (1, .int w), (2, .int n1), (3, .int w2)] → W p l e (headSpec wm_X12_role ({ frames := 2, cells := 0, slots := 0, locals := 46 })).room s m ([.ref o, .int w, .int n1, .int w2] : List Value).toArray below meth cd H locs 0 0 (MQ below (va_Qi (fun (r : Int32) (u : MS) => True ∧ mInv u.1 u.2.2.1 ∧ (∀ k, k ∉ ([0] : List Nat) → u.1 k = i k) ∧ (∀ k, k ∉ ([1, 67] : List Nat) → u.2.2.1 k = c k)) (oC D A (fun u : MS => mW o a t u.1 u.2.1 u.2.2.1 u.2.2.2) (fun _ => [])) A) ([.ref o, .int w, .int n1, .int w2] : List Value).toArray s 0 0 A) (F0 m 32 ls []) := by
      intro hz4_0 H locs ls hP hD hS hl
      refine lv_iload_n hx hb dX12_role_32 rfl (lv_at hl 3 rfl) ?_
      refine lv_bipush (v := (-9)) hx hb dX12_role_33 (by decide +kernel) ?_
      have jn5 : ∀ (H : Heap) (locs : List Loc) (ls : Array Slot), va_P D vwCl (mW o a t i q c d) H → va_D A (mW o a t i q c d) → va_S A s.heap H locs → lv_has ls 4 [(0, .ref o), (1, .int w), (2, .int n1), (3, .int w2)] → W p l e (headSpec wm_X12_role ({ frames := 2, cells := 0, slots := 0, locals := 46 })).room s m ([.ref o, .int w, .int n1, .int w2] : List Value).toArray below meth cd H locs 0 0 (MQ below (va_Qi (fun (r : Int32) (u : MS) => True ∧ mInv u.1 u.2.2.1 ∧ (∀ k, k ∉ ([0] : List Nat) → u.1 k = i k) ∧ (∀ k, k ∉ ([1, 67] : List Nat) → u.2.2.1 k = c k)) (oC D A (fun u : MS => mW o a t u.1 u.2.1 u.2.2.1 u.2.2.2) (fun _ => [])) A) ([.ref o, .int w, .int n1, .int w2] : List Value).toArray s 0 0 A) (F0 m 53 ls []) := by
        intro H locs ls hP hD hS hl
        refine lv_iload_n hx hb dX12_role_53 rfl (lv_at hl 2 rfl) ?_
        refine lv_i2l (v := n1.toInt64) hx hb dX12_role_54 rfl ?_
        refine lv_lconst (v := 0) hx hb dX12_role_55 (by decide +kernel) ?_
        refine lv_aload_n hx hb dX12_role_56 rfl (lv_at hl 0 rfl) ?_
        refine mget_66 hx hb hts (fun _ h => List.mem_cons_of_mem _ (List.mem_append_right _ h)) hown hK hP (hts (.fieldLink RX12 142 "TalePlayModel" "castMany" "[I") (List.mem_cons_of_mem _ (List.mem_append_left _ (List.mem_append_left _ (List.mem_of_getElem? (i := 5) rfl))))) dX12_role_57 ?_
        refine lv_iload_n hx hb dX12_role_60 rfl (lv_at hl 1 rfl) ?_
        refine mld_66 hx hb hK hP (vp_in_iff.mpr (by have h9 : w.toInt = w.toInt := rfl; omega)) dX12_role_61 (fun x6 ex6 => ?_)
        have rx6 : 0 ≤ x6.toInt ∧ x6.toInt ≤ 12 := by rw [ex6]; exact hI.2 66 _
        refine lv_iconst (v := 1) hx hb dX12_role_62 (by decide +kernel) ?_
        refine lv_isub hx hb dX12_role_63 ?_
        refine lv_topi (fun x7 ex7 => ?_)
        have tx7 := ti_sub (a := x6.toInt) (b := 1) ex7 rfl (by decide +kernel) (by omega) (by omega)
        refine lv_i2l (v := x7.toInt64) hx hb dX12_role_64 rfl ?_
        have hPc := hP.sub (ws' := []) [] rfl
        have hKc := hK.sub (tys' := []) [] rfl
        refine ro_calli (va_runS (As := [.long n1.toInt64, .long 0, .long x7.toInt64]) (rest := []) ⟨hx, hb, hml, hown, hts⟩ (c_X12_in l D H.size n1.toInt64 0 x7.toInt64 n1.toInt 0 (x6.toInt - 1) ((Int32.toInt_toInt64 n1).trans rfl) (by decide +kernel) ((Int32.toInt_toInt64 x7).trans tx7)) (va_cwS 3 hts gm_X12_role_X12_in rfl rfl rfl (by decide +kernel) ⟨Nat.le_of_ble_eq_true rfl, Nat.le_of_ble_eq_true rfl⟩) (pA_S hKc hPc) rfl rfl hl.1 rfl (lv_room (Nat.le_of_ble_eq_true rfl)) dX12_role_65 ⟨Nat.le_of_ble_eq_true rfl, Nat.le_of_ble_eq_true rfl⟩) hS hA hP (fun r8 u8 H locs hw8 hP hS => ?_)
        have hw8 : r8 = if (0 ≤ n1.toInt ∧ n1.toInt ≤ (x6.toInt - 1)) then 1 else 0 := hw8
        refine lv_if_ne (tgt := 77) hx hb dX12_role_68 (by decide +kernel) (fun c9 => ?_) (fun c9 => ?_)
        · have f9 := fl_t hw8 c9
          refine lv_iload_n hx hb dX12_role_77 rfl (lv_at hl 3 rfl) ?_
          refine lv_bipush (v := (-9)) hx hb dX12_role_78 (by decide +kernel) ?_
          have jn10 : ∀ (H : Heap) (locs : List Loc) (ls : Array Slot), va_P D vwCl (mW o a t i q c d) H → va_D A (mW o a t i q c d) → va_S A s.heap H locs → lv_has ls 4 [(0, .ref o), (1, .int w), (2, .int n1), (3, .int w2)] → W p l e (headSpec wm_X12_role ({ frames := 2, cells := 0, slots := 0, locals := 46 })).room s m ([.ref o, .int w, .int n1, .int w2] : List Value).toArray below meth cd H locs 0 0 (MQ below (va_Qi (fun (r : Int32) (u : MS) => True ∧ mInv u.1 u.2.2.1 ∧ (∀ k, k ∉ ([0] : List Nat) → u.1 k = i k) ∧ (∀ k, k ∉ ([1, 67] : List Nat) → u.2.2.1 k = c k)) (oC D A (fun u : MS => mW o a t u.1 u.2.1 u.2.2.1 u.2.2.2) (fun _ => [])) A) ([.ref o, .int w, .int n1, .int w2] : List Value).toArray s 0 0 A) (F0 m 104 ls []) := by
            intro H locs ls hP hD hS hl
            refine lv_aload_n hx hb dX12_role_104 rfl (lv_at hl 0 rfl) ?_
            refine mget_67 hx hb hts (fun _ h => List.mem_cons_of_mem _ (List.mem_append_right _ h)) hown hK hP (hts (.fieldLink RX12 145 "TalePlayModel" "roles" "[I") (List.mem_cons_of_mem _ (List.mem_append_left _ (List.mem_append_left _ (List.mem_of_getElem? (i := 6) rfl))))) dX12_role_105 ?_
            refine lv_bipush (v := 12) hx hb dX12_role_108 (by decide +kernel) ?_
            refine lv_iload_n hx hb dX12_role_110 rfl (lv_at hl 1 rfl) ?_
            refine lv_imul hx hb dX12_role_111 ?_
            refine lv_topi (fun x11 ex11 => ?_)
            have tx11 := ti_mul (a := 12) (b := w.toInt) ex11 (by decide +kernel) rfl (by omega) (by omega)
            refine lv_iload_n hx hb dX12_role_112 rfl (lv_at hl 2 rfl) ?_
            refine lv_iadd hx hb dX12_role_113 ?_
            refine lv_topi (fun x12 ex12 => ?_)
            have tx12 := ti_add (a := (12 * w.toInt)) (b := n1.toInt) ex12 tx11 rfl (by omega) (by omega)
            refine lv_iload_n hx hb dX12_role_114 rfl (lv_at hl 3 rfl) ?_
            refine mst_67 hx hb hK hP hD hS (vp_in_iff.mpr (by have h9 : x12.toInt = ((12 * w.toInt) + n1.toInt) := tx12; omega)) dX12_role_115 (fun H locs hP hD hS => ?_)
            have hI := mInv_c hI (k := 67) (j := (x12 : Int32).toNatClampNeg) (x := w2) (show (w2 : Int32).toInt = -9 ∨ (0 ≤ (w2 : Int32).toInt ∧ (w2 : Int32).toInt ≤ 29) from by omega)
            have hfc : ∀ k, k ∉ ([67] : List Nat) → (updA c 67 (x12 : Int32).toNatClampNeg w2) k = c k := fr_cz hfc (by decide +kernel) (by decide +kernel)
            refine lv_iconst (v := 1) hx hb dX12_role_116 (by decide +kernel) ?_
            exact rw_iret (i, q, (updA c 67 (x12 : Int32).toNatClampNeg w2), d) hx hb hr hlocks hS (hK.sub (tys' := []) [] rfl) hP hD dX12_role_117 ⟨trivial, hI, fr_w hfi (by decide +kernel), fr_w hfc (by decide +kernel)⟩
          refine lv_icmp_eq (tgt := 104) hx hb dX12_role_80 (by decide +kernel) (fun c13 => ?_) (fun c13 => ?_)
          · have f13 := (ti_eq (a := w2.toInt) (b := (-9)) rfl (by decide +kernel)).mp c13
            exact jn10    _ _ _ hP hD hS (lv_sub hl [0, 1, 2, 3] rfl)
          · have f13 := mt (ti_eq (a := w2.toInt) (b := (-9)) rfl (by decide +kernel)).mpr c13
            refine lv_aload_n hx hb dX12_role_83 rfl (lv_at hl 0 rfl) ?_
            refine lv_iload_n hx hb dX12_role_84 rfl (lv_at hl 3 rfl) ?_
            refine lv_aload_n hx hb dX12_role_85 rfl (lv_at hl 0 rfl) ?_
            refine mget_65 hx hb hts (fun _ h => List.mem_cons_of_mem _ (List.mem_append_right _ h)) hown hK hP (hts (.fieldLink RX12 139 "TalePlayModel" "castSort" "[I") (List.mem_cons_of_mem _ (List.mem_append_left _ (List.mem_append_left _ (List.mem_of_getElem? (i := 7) rfl))))) dX12_role_86 ?_
            refine lv_iload_n hx hb dX12_role_89 rfl (lv_at hl 1 rfl) ?_
            refine mld_65 hx hb hK hP (vp_in_iff.mpr (by have h9 : w.toInt = w.toInt := rfl; omega)) dX12_role_90 (fun x14 ex14 => ?_)
            have rx14 : 0 ≤ x14.toInt ∧ x14.toInt ≤ 5 := by rw [ex14]; exact hI.2 65 _
            refine ro_calli (va_runV (As := [.int w2, .int x14]) (rest := []) ⟨hx, hb, hml, hown, hts⟩ (s_X12_isOf l D H.size o a t i q c d w2 x14 hI (show 0 ≤ w2.toInt ∧ w2.toInt ≤ 29 from by omega) (show 0 ≤ x14.toInt from by omega)) (cwV 2 hts gm_X12_role_X12_isOf rfl rfl rfl (by decide +kernel) ⟨Nat.le_of_ble_eq_true rfl, Nat.le_of_ble_eq_true rfl⟩) (pA_V hK hP (ci := 12) (q0 := 0) rfl rfl) rfl rfl hl.1 rfl (lv_room (Nat.le_of_ble_eq_true rfl)) dX12_role_91 ⟨Nat.le_of_ble_eq_true rfl, Nat.le_of_ble_eq_true rfl⟩) hS hA hP (fun r15 u15 H locs hw15 hP hS => ?_)
            have hw15 : ((0 ≤ r15.toInt ∧ r15.toInt ≤ 1) ∧ (Sm r15 (Kd (c 3) (c 6) w2.toInt x14.toInt))) := hw15
            obtain ⟨hw15, hr15_0⟩ := hw15
            have hr15_0 : Sm r15 (Kd (c 3) (c 6) w2.toInt x14.toInt) := hr15_0
            refine lv_if_ne (tgt := 104) hx hb dX12_role_94 (by decide +kernel) (fun c16 => ?_) (fun c16 => ?_)
            · have f16 := mt (ti_eq (a := r15.toInt) (b := 0) rfl (by decide +kernel)).mpr c16
              have s16 := sm_t hr15_0 c16
              exact jn10    _ _ _ hP hD hS (lv_sub hl [0, 1, 2, 3] rfl)
            · have f16 := (ti_eq (a := r15.toInt) (b := 0) rfl (by decide +kernel)).mp c16
              have s16 := sm_f hr15_0 c16
              refine lv_aload_n hx hb dX12_role_97 rfl (lv_at hl 0 rfl) ?_
              refine lv_bipush (v := 6) hx hb dX12_role_98 (by decide +kernel) ?_
              refine al_calli (va_runV (As := [.int 6]) (rest := []) ⟨hx, hb, hml, hown, hts⟩ (s_X12_meets l D H.size o a t i q c d 6 hI (show 1 ≤ 6 ∧ 6 ≤ 6 from by decide +kernel)) (cwV 1 hts gm_X12_role_X12_meets rfl rfl rfl (by decide +kernel) ⟨Nat.le_of_ble_eq_true rfl, Nat.le_of_ble_eq_true rfl⟩) (pB_V hK hP hD (ci := 12) (q0 := 0) rfl rfl) rfl rfl hl.1 rfl (lv_room (Nat.le_of_ble_eq_true rfl)) dX12_role_100 ⟨Nat.le_of_ble_eq_true rfl, Nat.le_of_ble_eq_true rfl⟩) hS hA hP hD (fun r17 u17 H locs hw17 hP hD hS => ?_)
              obtain ⟨i17, q17, c17, d17⟩ := u17
              have hw17 : r17 = (-3) ∧ mInv i17 c17 ∧ (∀ k, k ∉ ([0] : List Nat) → i17 k = i k) ∧ (∀ k, k ∉ ([1] : List Nat) → c17 k = c k) := hw17
              obtain ⟨hw17, hI, hei17, hec17⟩ := hw17
              have hfi : ∀ k, k ∉ ([0] : List Nat) → i17 k = i k := fr_z hfi hei17 (by decide +kernel) (by decide +kernel)
              have hfc : ∀ k, k ∉ ([1] : List Nat) → c17 k = c k := fr_z hfc hec17 (by decide +kernel) (by decide +kernel)
              have hP : va_P D vwCl (mW o a t i17 q17 c17 d17) H := hP
              have hD : va_D A (mW o a t i17 q17 c17 d17) := hD
              have hw17 : r17 = (-3) := hw17
              subst hw17
              exact rw_iret (i17, q17, c17, d17) hx hb hr hlocks hS (hK.sub (tys' := []) [] rfl) hP hD dX12_role_103 ⟨trivial, hI, fr_w hfi (by decide +kernel), fr_w hfc (by decide +kernel)⟩
        · have f9 := fl_f hw8 c9
          refine lv_aload_n hx hb dX12_role_71 rfl (lv_at hl 0 rfl) ?_
          refine lv_iconst (v := 2) hx hb dX12_role_72 (by decide +kernel) ?_
          refine al_calli (va_runV (As := [.int 2]) (rest := []) ⟨hx, hb, hml, hown, hts⟩ (s_X12_meets l D H.size o a t i q c d 2 hI (show 1 ≤ 2 ∧ 2 ≤ 6 from by decide +kernel)) (cwV 1 hts gm_X12_role_X12_meets rfl rfl rfl (by decide +kernel) ⟨Nat.le_of_ble_eq_true rfl, Nat.le_of_ble_eq_true rfl⟩) (pB_V hK hP hD (ci := 12) (q0 := 0) rfl rfl) rfl rfl hl.1 rfl (lv_room (Nat.le_of_ble_eq_true rfl)) dX12_role_73 ⟨Nat.le_of_ble_eq_true rfl, Nat.le_of_ble_eq_true rfl⟩) hS hA hP hD (fun r18 u18 H locs hw18 hP hD hS => ?_)
          obtain ⟨i18, q18, c18, d18⟩ := u18
          have hw18 : r18 = (-3) ∧ mInv i18 c18 ∧ (∀ k, k ∉ ([0] : List Nat) → i18 k = i k) ∧ (∀ k, k ∉ ([1] : List Nat) → c18 k = c k) := hw18
          obtain ⟨hw18, hI, hei18, hec18⟩ := hw18
          have hfi : ∀ k, k ∉ ([0] : List Nat) → i18 k = i k := fr_z hfi hei18 (by decide +kernel) (by decide +kernel)
          have hfc : ∀ k, k ∉ ([1] : List Nat) → c18 k = c k := fr_z hfc hec18 (by decide +kernel) (by decide +kernel)
          have hP : va_P D vwCl (mW o a t i18 q18 c18 d18) H := hP
          have hD : va_D A (mW o a t i18 q18 c18 d18) := hD
          have hw18 : r18 = (-3) := hw18
          subst hw18
          exact rw_iret (i18, q18, c18, d18) hx hb hr hlocks hS (hK.sub (tys' := []) [] rfl) hP hD dX12_role_76 ⟨trivial, hI, fr_w hfi (by decide +kernel), fr_w hfc (by decide +kernel)⟩
      refine lv_icmp_eq (tgt := 53) hx hb dX12_role_35 (by decide +kernel) (fun c19 => ?_) (fun c19 => ?_)
      · have f19 := (ti_eq (a := w2.toInt) (b := (-9)) rfl (by decide +kernel)).mp c19
        exact jn5    _ _ _ hP hD hS (lv_sub hl [0, 1, 2, 3] rfl)
      · have f19 := mt (ti_eq (a := w2.toInt) (b := (-9)) rfl (by decide +kernel)).mpr c19
        refine lv_aload_n hx hb dX12_role_38 rfl (lv_at hl 0 rfl) ?_
        refine lv_iload_n hx hb dX12_role_39 rfl (lv_at hl 3 rfl) ?_
        refine lv_iconst (v := 0) hx hb dX12_role_40 (by decide +kernel) ?_
        refine ro_calli (va_runV (As := [.int w2, .int 0]) (rest := []) ⟨hx, hb, hml, hown, hts⟩ (s_X12_isOf l D H.size o a t i q c d w2 0 hI (show 0 ≤ w2.toInt ∧ w2.toInt ≤ 29 from by have h91 : (0 : Int32).toInt = 0 := (by decide +kernel); omega) (show 0 ≤ 0 from by decide +kernel)) (cwV 2 hts gm_X12_role_X12_isOf rfl rfl rfl (by decide +kernel) ⟨Nat.le_of_ble_eq_true rfl, Nat.le_of_ble_eq_true rfl⟩) (pA_V hK hP (ci := 12) (q0 := 0) rfl rfl) rfl rfl hl.1 rfl (lv_room (Nat.le_of_ble_eq_true rfl)) dX12_role_41 ⟨Nat.le_of_ble_eq_true rfl, Nat.le_of_ble_eq_true rfl⟩) hS hA hP (fun r20 u20 H locs hw20 hP hS => ?_)
        have hw20 : ((0 ≤ r20.toInt ∧ r20.toInt ≤ 1) ∧ (Sm r20 (Kd (c 3) (c 6) w2.toInt 0))) := hw20
        obtain ⟨hw20, hr20_0⟩ := hw20
        have hr20_0 : Sm r20 (Kd (c 3) (c 6) w2.toInt 0) := hr20_0
        refine lv_if_eq (tgt := 53) hx hb dX12_role_44 (by decide +kernel) (fun c21 => ?_) (fun c21 => ?_)
        · have f21 := (ti_eq (a := r20.toInt) (b := 0) rfl (by decide +kernel)).mp c21
          have s21 := sm_f hr20_0 c21
          exact jn5    _ _ _ hP hD hS (lv_sub hl [0, 1, 2, 3] rfl)
        · have f21 := mt (ti_eq (a := r20.toInt) (b := 0) rfl (by decide +kernel)).mpr c21
          have s21 := sm_t hr20_0 c21
          refine lv_aload_n hx hb dX12_role_47 rfl (lv_at hl 0 rfl) ?_
          refine lv_iconst (v := 3) hx hb dX12_role_48 (by decide +kernel) ?_
          refine al_calli (va_runV (As := [.int 3]) (rest := []) ⟨hx, hb, hml, hown, hts⟩ (s_X12_meets l D H.size o a t i q c d 3 hI (show 1 ≤ 3 ∧ 3 ≤ 6 from by decide +kernel)) (cwV 1 hts gm_X12_role_X12_meets rfl rfl rfl (by decide +kernel) ⟨Nat.le_of_ble_eq_true rfl, Nat.le_of_ble_eq_true rfl⟩) (pB_V hK hP hD (ci := 12) (q0 := 0) rfl rfl) rfl rfl hl.1 rfl (lv_room (Nat.le_of_ble_eq_true rfl)) dX12_role_49 ⟨Nat.le_of_ble_eq_true rfl, Nat.le_of_ble_eq_true rfl⟩) hS hA hP hD (fun r22 u22 H locs hw22 hP hD hS => ?_)
          obtain ⟨i22, q22, c22, d22⟩ := u22
          have hw22 : r22 = (-3) ∧ mInv i22 c22 ∧ (∀ k, k ∉ ([0] : List Nat) → i22 k = i k) ∧ (∀ k, k ∉ ([1] : List Nat) → c22 k = c k) := hw22
          obtain ⟨hw22, hI, hei22, hec22⟩ := hw22
          have hfi : ∀ k, k ∉ ([0] : List Nat) → i22 k = i k := fr_z hfi hei22 (by decide +kernel) (by decide +kernel)
          have hfc : ∀ k, k ∉ ([1] : List Nat) → c22 k = c k := fr_z hfc hec22 (by decide +kernel) (by decide +kernel)
          have hP : va_P D vwCl (mW o a t i22 q22 c22 d22) H := hP
          have hD : va_D A (mW o a t i22 q22 c22 d22) := hD
          have hw22 : r22 = (-3) := hw22
          subst hw22
          exact rw_iret (i22, q22, c22, d22) hx hb hr hlocks hS (hK.sub (tys' := []) [] rfl) hP hD dX12_role_52 ⟨trivial, hI, fr_w hfi (by decide +kernel), fr_w hfc (by decide +kernel)⟩
    refine lv_icmp_eq (tgt := 32) hx hb dX12_role_19 (by decide +kernel) (fun c23 => ?_) (fun c23 => ?_)
    · have f23 := (ti_eq (a := w2.toInt) (b := (-9)) rfl (by decide +kernel)).mp c23
      exact jn4   (show w2.toInt = -9 ∨ (0 ≤ w2.toInt ∧ w2.toInt ≤ 29) from by omega) _ _ _ hP hD hS (lv_sub hl [0, 1, 2, 3] rfl)
    · have f23 := mt (ti_eq (a := w2.toInt) (b := (-9)) rfl (by decide +kernel)).mpr c23
      refine lv_aload_n hx hb dX12_role_22 rfl (lv_at hl 0 rfl) ?_
      refine lv_iload_n hx hb dX12_role_23 rfl (lv_at hl 3 rfl) ?_
      have rb5_i : 0 ≤ (i 5).toInt ∧ (i 5).toInt ≤ 30 := hI.1 5
      refine ro_calli (va_runV (As := [.int w2]) (rest := []) ⟨hx, hb, hml, hown, hts⟩ (s_X12_isObject l D H.size o a t i q c d w2 hI ) (cwV 1 hts gm_X12_role_X12_isObject rfl rfl rfl (by decide +kernel) ⟨Nat.le_of_ble_eq_true rfl, Nat.le_of_ble_eq_true rfl⟩) (pA_V hK hP (ci := 12) (q0 := 0) rfl rfl) rfl rfl hl.1 rfl (lv_room (Nat.le_of_ble_eq_true rfl)) dX12_role_24 ⟨Nat.le_of_ble_eq_true rfl, Nat.le_of_ble_eq_true rfl⟩) hS hA hP (fun r24 u24 H locs hw24 hP hS => ?_)
      have hw24 : r24 = if (0 ≤ w2.toInt ∧ w2.toInt ≤ (i 5).toInt - 1) then 1 else 0 := hw24
      refine lv_if_ne (tgt := 32) hx hb dX12_role_27 (by decide +kernel) (fun c25 => ?_) (fun c25 => ?_)
      · have f25 := fl_t hw24 c25
        exact jn4   (show w2.toInt = -9 ∨ (0 ≤ w2.toInt ∧ w2.toInt ≤ 29) from by omega) _ _ _ hP hD hS (lv_sub hl [0, 1, 2, 3] rfl)
      · have f25 := fl_f hw24 c25
        refine lv_iconst (v := (-1)) hx hb dX12_role_30 (by decide +kernel) ?_
        exact rw_iret (i, q, c, d) hx hb hr hlocks hS (hK.sub (tys' := []) [] rfl) hP hD dX12_role_31 ⟨trivial, hI, fr_w hfi (by decide +kernel), fr_w hfc (by decide +kernel)⟩

def wm_X12_who : List Cond := .code yX12_who cX12_who 3 (some .int) :: (([.fieldLink RX12 450 "TalePlayModel" "casts" "I", .methodLink RX12 166 yX12_in, .static yX12_in, .initialized RX12, .code yX12_in cX12_in 6 (some .boolean), .fieldLink RX12 142 "TalePlayModel" "castMany" "[I", .fieldLink RX12 145 "TalePlayModel" "roles" "[I", .methodLink RX12 233 yX12_meets, .instanceMethod yX12_meets, .selects RX12 yX12_meets yX12_meets, .code yX12_meets cX12_meets 2 (some .int), .fieldLink RX12 161 "TalePlayModel" "latest" "I", .fieldLink RX12 7 "TalePlayModel" "came" "[I"] : List Cond) ++ wsX120)
set_option maxRecDepth 20000 in
theorem gm_X12_who_X12_in : GoodIn wm_X12_who (va_wsS RX12 166 yX12_in wm_X12_in) := goodIn_w (List.forall_mem_append.mpr ⟨List.forall_mem_cons.mpr ⟨List.mem_cons_of_mem _ (List.mem_append_left _ (List.mem_of_getElem? (i := 1) rfl)), List.forall_mem_cons.mpr ⟨List.mem_cons_of_mem _ (List.mem_append_left _ (List.mem_of_getElem? (i := 2) rfl)), List.forall_mem_cons.mpr ⟨List.mem_cons_of_mem _ (List.mem_append_left _ (List.mem_of_getElem? (i := 3) rfl)), (fun _ h => absurd h List.not_mem_nil)⟩⟩⟩, List.forall_mem_cons.mpr ⟨List.mem_cons_of_mem _ (List.mem_append_left _ (List.mem_of_getElem? (i := 4) rfl)), (fun _ h => absurd h List.not_mem_nil)⟩⟩) (by decide +kernel)
set_option maxRecDepth 20000 in
theorem gm_X12_who_X12_meets : GoodIn wm_X12_who (wsV RX12 233 RX12 yX12_meets wm_X12_meets) := goodIn_w (List.forall_mem_append.mpr ⟨List.forall_mem_cons.mpr ⟨List.mem_cons_of_mem _ (List.mem_append_left _ (List.mem_of_getElem? (i := 7) rfl)), List.forall_mem_cons.mpr ⟨List.mem_cons_of_mem _ (List.mem_append_left _ (List.mem_of_getElem? (i := 8) rfl)), List.forall_mem_cons.mpr ⟨List.mem_cons_of_mem _ (List.mem_append_left _ (List.mem_of_getElem? (i := 9) rfl)), List.forall_mem_cons.mpr ⟨List.mem_cons_of_mem _ (List.mem_append_left _ (List.mem_of_getElem? (i := 3) rfl)), (fun _ h => absurd h List.not_mem_nil)⟩⟩⟩⟩, List.forall_mem_cons.mpr ⟨List.mem_cons_of_mem _ (List.mem_append_left _ (List.mem_of_getElem? (i := 10) rfl)), List.forall_mem_append.mpr ⟨List.forall_mem_cons.mpr ⟨List.mem_cons_of_mem _ (List.mem_append_left _ (List.mem_of_getElem? (i := 11) rfl)), List.forall_mem_cons.mpr ⟨List.mem_cons_of_mem _ (List.mem_append_left _ (List.mem_of_getElem? (i := 12) rfl)), (fun _ h => absurd h List.not_mem_nil)⟩⟩, (fun _ h => List.mem_cons_of_mem _ (List.mem_append_right _ h))⟩⟩⟩) (by decide +kernel)
set_option maxHeartbeats 4000000 in
set_option maxRecDepth 100000 in
theorem s_X12_who (l : Launch) (D : va_G) (sz : Nat) (o : Nat) (a : Nat → Nat) (t : Nat → ClassId) (i : Nat → Int32) (q : Int64) (c : Nat → Nat → Int32) (d : Nat → Nat → Int64) (w : Int32) (n1 : Int32) (hI : mInv i c) : Met l yX12_who wm_X12_who ({ frames := 1, cells := 0, slots := 0, locals := 25 }) (va_Pc [.ref o, .int w, .int n1] (pB D sz (mW o a t i q c d) (mT t))) (va_Qi (fun (r : Int32) (u : MS) => True ∧ mInv u.1 u.2.2.1 ∧ (∀ k, k ∉ ([0] : List Nat) → u.1 k = i k) ∧ (∀ k, k ∉ ([1] : List Nat) → u.2.2.1 k = c k)) (oC D (va_A (mW o a t i q c d) sz) (fun u : MS => mW o a t u.1 u.2.1 u.2.2.1 u.2.2.2) (fun _ => [])) (va_A (mW o a t i q c d) sz)) 0 0 (va_A (mW o a t i q c d) sz) := by
  refine Met.ofW (cc := cX12_who) (maxL := 3) (ret := (some .int)) (by decide +kernel) rfl ?_
  intro p e s m args below meth cd s₁ B hml hv
  obtain ⟨rfl, hsz, hP, hK, hD0⟩ := hv
  have hx := B.exec
  have hb := B.bytes
  have hr := B.returns
  have hts := atoms_spec (ws := wm_X12_who) B.pre
  have hown : s.vm.findClass RX12 = some m.cls := findClass_of_methodNamed B.named
  have hlocks := B.notSynchronized
  subst hsz
  have hD := hD0.self (sz := s.heap.size)
  generalize hAe : va_A (mW o a t i q c d) s.heap.size = A at hD ⊢
  have hA : ∀ q : Nat, s.heap.size ≤ q → A q := fun q h => by rw [← hAe]; exact Or.inr h
  have hS : va_S A s.heap s.heap [] := va_S.rf
  have hfi : ∀ k, k ∉ ([] : List Nat) → i k = i k := fun _ _ => rfl
  have hfc : ∀ k, k ∉ ([] : List Nat) → c k = c k := fun _ _ => rfl
  have hl := lv_entry ([.ref o, .int w, .int n1]) (n := 3) (Nat.le_of_ble_eq_true rfl)
  rw [lg_entry_eq]
  generalize (lg_sl ([.ref o, .int w, .int n1]) ++ List.replicate (3 - (lg_sl ([.ref o, .int w, .int n1])).length) Slot.unset).toArray = ls at hl ⊢
  have hl : lv_has ls 3 [(0, .ref o), (1, .int w), (2, .int n1)] := hl
  refine lv_iload_n hx hb dX12_who_0 rfl (lv_at hl 1 rfl) ?_
  refine lv_i2l (v := w.toInt64) hx hb dX12_who_1 rfl ?_
  refine lv_lconst (v := 0) hx hb dX12_who_2 (by decide +kernel) ?_
  refine lv_aload_n hx hb dX12_who_3 rfl (lv_at hl 0 rfl) ?_
  refine mget_64 (v := (i 64)) rfl hx hb hts (fun _ h => List.mem_cons_of_mem _ (List.mem_append_right _ h)) hown hK hP (hts (.fieldLink RX12 450 "TalePlayModel" "casts" "I") (List.mem_cons_of_mem _ (List.mem_append_left _ (List.mem_of_getElem? (i := 0) rfl)))) dX12_who_4 ?_
  have rb64_i : 0 ≤ (i 64).toInt ∧ (i 64).toInt ≤ 10 := hI.1 64
  refine lv_iconst (v := 1) hx hb dX12_who_7 (by decide +kernel) ?_
  refine lv_isub hx hb dX12_who_8 ?_
  refine lv_topi (fun x1 ex1 => ?_)
  have tx1 := ti_sub (a := (i 64).toInt) (b := 1) ex1 rfl (by decide +kernel) (by omega) (by omega)
  refine lv_i2l (v := x1.toInt64) hx hb dX12_who_9 rfl ?_
  have hPc := hP.sub (ws' := []) [] rfl
  have hKc := hK.sub (tys' := []) [] rfl
  refine ro_calli (va_runS (As := [.long w.toInt64, .long 0, .long x1.toInt64]) (rest := []) ⟨hx, hb, hml, hown, hts⟩ (c_X12_in l D s.heap.size w.toInt64 0 x1.toInt64 w.toInt 0 ((i 64).toInt - 1) ((Int32.toInt_toInt64 w).trans rfl) (by decide +kernel) ((Int32.toInt_toInt64 x1).trans tx1)) (va_cwS 3 hts gm_X12_who_X12_in rfl rfl rfl (by decide +kernel) ⟨Nat.le_of_ble_eq_true rfl, Nat.le_of_ble_eq_true rfl⟩) (pA_S hKc hPc) rfl rfl hl.1 rfl (lv_room (Nat.le_of_ble_eq_true rfl)) dX12_who_10 ⟨Nat.le_of_ble_eq_true rfl, Nat.le_of_ble_eq_true rfl⟩) hS hA hP (fun r2 u2 H locs hw2 hP hS => ?_)
  have hw2 : r2 = if (0 ≤ w.toInt ∧ w.toInt ≤ ((i 64).toInt - 1)) then 1 else 0 := hw2
  refine lv_if_ne (tgt := 18) hx hb dX12_who_13 (by decide +kernel) (fun c3 => ?_) (fun c3 => ?_)
  · have f3 := fl_t hw2 c3
    refine lv_iload_n hx hb dX12_who_18 rfl (lv_at hl 2 rfl) ?_
    refine lv_i2l (v := n1.toInt64) hx hb dX12_who_19 rfl ?_
    refine lv_lconst (v := 0) hx hb dX12_who_20 (by decide +kernel) ?_
    refine lv_aload_n hx hb dX12_who_21 rfl (lv_at hl 0 rfl) ?_
    refine mget_66 hx hb hts (fun _ h => List.mem_cons_of_mem _ (List.mem_append_right _ h)) hown hK hP (hts (.fieldLink RX12 142 "TalePlayModel" "castMany" "[I") (List.mem_cons_of_mem _ (List.mem_append_left _ (List.mem_of_getElem? (i := 5) rfl)))) dX12_who_22 ?_
    refine lv_iload_n hx hb dX12_who_25 rfl (lv_at hl 1 rfl) ?_
    refine mld_66 hx hb hK hP (vp_in_iff.mpr (by have h9 : w.toInt = w.toInt := rfl; omega)) dX12_who_26 (fun x4 ex4 => ?_)
    have rx4 : 0 ≤ x4.toInt ∧ x4.toInt ≤ 12 := by rw [ex4]; exact hI.2 66 _
    refine lv_iconst (v := 1) hx hb dX12_who_27 (by decide +kernel) ?_
    refine lv_isub hx hb dX12_who_28 ?_
    refine lv_topi (fun x5 ex5 => ?_)
    have tx5 := ti_sub (a := x4.toInt) (b := 1) ex5 rfl (by decide +kernel) (by omega) (by omega)
    refine lv_i2l (v := x5.toInt64) hx hb dX12_who_29 rfl ?_
    have hPc := hP.sub (ws' := []) [] rfl
    have hKc := hK.sub (tys' := []) [] rfl
    refine ro_calli (va_runS (As := [.long n1.toInt64, .long 0, .long x5.toInt64]) (rest := []) ⟨hx, hb, hml, hown, hts⟩ (c_X12_in l D H.size n1.toInt64 0 x5.toInt64 n1.toInt 0 (x4.toInt - 1) ((Int32.toInt_toInt64 n1).trans rfl) (by decide +kernel) ((Int32.toInt_toInt64 x5).trans tx5)) (va_cwS 3 hts gm_X12_who_X12_in rfl rfl rfl (by decide +kernel) ⟨Nat.le_of_ble_eq_true rfl, Nat.le_of_ble_eq_true rfl⟩) (pA_S hKc hPc) rfl rfl hl.1 rfl (lv_room (Nat.le_of_ble_eq_true rfl)) dX12_who_30 ⟨Nat.le_of_ble_eq_true rfl, Nat.le_of_ble_eq_true rfl⟩) hS hA hP (fun r6 u6 H locs hw6 hP hS => ?_)
    have hw6 : r6 = if (0 ≤ n1.toInt ∧ n1.toInt ≤ (x4.toInt - 1)) then 1 else 0 := hw6
    refine lv_if_ne (tgt := 42) hx hb dX12_who_33 (by decide +kernel) (fun c7 => ?_) (fun c7 => ?_)
    · have f7 := fl_t hw6 c7
      refine lv_aload_n hx hb dX12_who_42 rfl (lv_at hl 0 rfl) ?_
      refine mget_67 hx hb hts (fun _ h => List.mem_cons_of_mem _ (List.mem_append_right _ h)) hown hK hP (hts (.fieldLink RX12 145 "TalePlayModel" "roles" "[I") (List.mem_cons_of_mem _ (List.mem_append_left _ (List.mem_of_getElem? (i := 6) rfl)))) dX12_who_43 ?_
      refine lv_bipush (v := 12) hx hb dX12_who_46 (by decide +kernel) ?_
      refine lv_iload_n hx hb dX12_who_48 rfl (lv_at hl 1 rfl) ?_
      refine lv_imul hx hb dX12_who_49 ?_
      refine lv_topi (fun x8 ex8 => ?_)
      have tx8 := ti_mul (a := 12) (b := w.toInt) ex8 (by decide +kernel) rfl (by omega) (by omega)
      refine lv_iload_n hx hb dX12_who_50 rfl (lv_at hl 2 rfl) ?_
      refine lv_iadd hx hb dX12_who_51 ?_
      refine lv_topi (fun x9 ex9 => ?_)
      have tx9 := ti_add (a := (12 * w.toInt)) (b := n1.toInt) ex9 tx8 rfl (by omega) (by omega)
      refine mld_67 hx hb hK hP (vp_in_iff.mpr (by have h9 : x9.toInt = ((12 * w.toInt) + n1.toInt) := tx9; omega)) dX12_who_52 (fun x10 ex10 => ?_)
      have rx10 : x10.toInt = -9 ∨ (0 ≤ x10.toInt ∧ x10.toInt ≤ 29) := by rw [ex10]; exact hI.2 67 _
      refine lv_bipush (v := (-9)) hx hb dX12_who_53 (by decide +kernel) ?_
      refine lv_icmp_ne (tgt := 66) hx hb dX12_who_55 (by decide +kernel) (fun c11 => ?_) (fun c11 => ?_)
      · have f11 := mt (ti_eq (a := x10.toInt) (b := (-9)) rfl (by decide +kernel)).mpr c11
        refine lv_aload_n hx hb dX12_who_66 rfl (lv_at hl 0 rfl) ?_
        refine mget_67 hx hb hts (fun _ h => List.mem_cons_of_mem _ (List.mem_append_right _ h)) hown hK hP (hts (.fieldLink RX12 145 "TalePlayModel" "roles" "[I") (List.mem_cons_of_mem _ (List.mem_append_left _ (List.mem_of_getElem? (i := 6) rfl)))) dX12_who_67 ?_
        refine lv_bipush (v := 12) hx hb dX12_who_70 (by decide +kernel) ?_
        refine lv_iload_n hx hb dX12_who_72 rfl (lv_at hl 1 rfl) ?_
        refine lv_imul hx hb dX12_who_73 ?_
        refine lv_topi (fun x12 ex12 => ?_)
        have tx12 := ti_mul (a := 12) (b := w.toInt) ex12 (by decide +kernel) rfl (by omega) (by omega)
        refine lv_iload_n hx hb dX12_who_74 rfl (lv_at hl 2 rfl) ?_
        refine lv_iadd hx hb dX12_who_75 ?_
        refine lv_topi (fun x13 ex13 => ?_)
        have tx13 := ti_add (a := (12 * w.toInt)) (b := n1.toInt) ex13 tx12 rfl (by omega) (by omega)
        refine mld_67 hx hb hK hP (vp_in_iff.mpr (by have h9 : x13.toInt = ((12 * w.toInt) + n1.toInt) := tx13; omega)) dX12_who_76 (fun x14 ex14 => ?_)
        have rx14 : x14.toInt = -9 ∨ (0 ≤ x14.toInt ∧ x14.toInt ≤ 29) := by rw [ex14]; exact hI.2 67 _
        exact rw_iret (i, q, c, d) hx hb hr hlocks hS (hK.sub (tys' := []) [] rfl) hP hD dX12_who_77 ⟨trivial, hI, fr_w hfi (by decide +kernel), fr_w hfc (by decide +kernel)⟩
      · have f11 := (ti_eq (a := x10.toInt) (b := (-9)) rfl (by decide +kernel)).mp c11
        refine lv_aload_n hx hb dX12_who_58 rfl (lv_at hl 0 rfl) ?_
        refine lv_iconst (v := 1) hx hb dX12_who_59 (by decide +kernel) ?_
        refine al_calli (va_runV (As := [.int 1]) (rest := []) ⟨hx, hb, hml, hown, hts⟩ (s_X12_meets l D H.size o a t i q c d 1 hI (show 1 ≤ 1 ∧ 1 ≤ 6 from by decide +kernel)) (cwV 1 hts gm_X12_who_X12_meets rfl rfl rfl (by decide +kernel) ⟨Nat.le_of_ble_eq_true rfl, Nat.le_of_ble_eq_true rfl⟩) (pB_V hK hP hD (ci := 12) (q0 := 0) rfl rfl) rfl rfl hl.1 rfl (lv_room (Nat.le_of_ble_eq_true rfl)) dX12_who_60 ⟨Nat.le_of_ble_eq_true rfl, Nat.le_of_ble_eq_true rfl⟩) hS hA hP hD (fun r15 u15 H locs hw15 hP hD hS => ?_)
        obtain ⟨i15, q15, c15, d15⟩ := u15
        have hw15 : r15 = (-3) ∧ mInv i15 c15 ∧ (∀ k, k ∉ ([0] : List Nat) → i15 k = i k) ∧ (∀ k, k ∉ ([1] : List Nat) → c15 k = c k) := hw15
        obtain ⟨hw15, hI, hei15, hec15⟩ := hw15
        have hfi : ∀ k, k ∉ ([0] : List Nat) → i15 k = i k := fr_z hfi hei15 (by decide +kernel) (by decide +kernel)
        have hfc : ∀ k, k ∉ ([1] : List Nat) → c15 k = c k := fr_z hfc hec15 (by decide +kernel) (by decide +kernel)
        have hP : va_P D vwCl (mW o a t i15 q15 c15 d15) H := hP
        have hD : va_D A (mW o a t i15 q15 c15 d15) := hD
        have hw15 : r15 = (-3) := hw15
        subst hw15
        refine lv_goto (tgt := 77) hx hb dX12_who_63 (by decide +kernel) ?_
        exact rw_iret (i15, q15, c15, d15) hx hb hr hlocks hS (hK.sub (tys' := []) [] rfl) hP hD dX12_who_77 ⟨trivial, hI, fr_w hfi (by decide +kernel), fr_w hfc (by decide +kernel)⟩
    · have f7 := fl_f hw6 c7
      refine lv_aload_n hx hb dX12_who_36 rfl (lv_at hl 0 rfl) ?_
      refine lv_iconst (v := 2) hx hb dX12_who_37 (by decide +kernel) ?_
      refine al_calli (va_runV (As := [.int 2]) (rest := []) ⟨hx, hb, hml, hown, hts⟩ (s_X12_meets l D H.size o a t i q c d 2 hI (show 1 ≤ 2 ∧ 2 ≤ 6 from by decide +kernel)) (cwV 1 hts gm_X12_who_X12_meets rfl rfl rfl (by decide +kernel) ⟨Nat.le_of_ble_eq_true rfl, Nat.le_of_ble_eq_true rfl⟩) (pB_V hK hP hD (ci := 12) (q0 := 0) rfl rfl) rfl rfl hl.1 rfl (lv_room (Nat.le_of_ble_eq_true rfl)) dX12_who_38 ⟨Nat.le_of_ble_eq_true rfl, Nat.le_of_ble_eq_true rfl⟩) hS hA hP hD (fun r16 u16 H locs hw16 hP hD hS => ?_)
      obtain ⟨i16, q16, c16, d16⟩ := u16
      have hw16 : r16 = (-3) ∧ mInv i16 c16 ∧ (∀ k, k ∉ ([0] : List Nat) → i16 k = i k) ∧ (∀ k, k ∉ ([1] : List Nat) → c16 k = c k) := hw16
      obtain ⟨hw16, hI, hei16, hec16⟩ := hw16
      have hfi : ∀ k, k ∉ ([0] : List Nat) → i16 k = i k := fr_z hfi hei16 (by decide +kernel) (by decide +kernel)
      have hfc : ∀ k, k ∉ ([1] : List Nat) → c16 k = c k := fr_z hfc hec16 (by decide +kernel) (by decide +kernel)
      have hP : va_P D vwCl (mW o a t i16 q16 c16 d16) H := hP
      have hD : va_D A (mW o a t i16 q16 c16 d16) := hD
      have hw16 : r16 = (-3) := hw16
      subst hw16
      exact rw_iret (i16, q16, c16, d16) hx hb hr hlocks hS (hK.sub (tys' := []) [] rfl) hP hD dX12_who_41 ⟨trivial, hI, fr_w hfi (by decide +kernel), fr_w hfc (by decide +kernel)⟩
  · have f3 := fl_f hw2 c3
    refine lv_iconst (v := (-1)) hx hb dX12_who_16 (by decide +kernel) ?_
    exact rw_iret (i, q, c, d) hx hb hr hlocks hS (hK.sub (tys' := []) [] rfl) hP hD dX12_who_17 ⟨trivial, hI, fr_w hfi (by decide +kernel), fr_w hfc (by decide +kernel)⟩

def wm_X12_count : List Cond := .code yX12_count cX12_count 2 (some .int) :: (([.fieldLink RX12 151 "TalePlayModel" "kinds" "I", .fieldLink RX12 177 "TalePlayModel" "objects" "I", .methodLink RX12 248 yX12_saidMany, .instanceMethod yX12_saidMany, .selects RX12 yX12_saidMany yX12_saidMany, .initialized RX12, .code yX12_saidMany cX12_saidMany 3 (some .int), .fieldLink RX12 202 "TalePlayModel" "sentences" "I", .fieldLink RX12 37 "TalePlayModel" "isSaid" "[Z", .fieldLink RX12 450 "TalePlayModel" "casts" "I", .fieldLink RX12 291 "TalePlayModel" "turns" "I", .fieldLink RX12 155 "TalePlayModel" "player" "I", .fieldLink RX12 158 "TalePlayModel" "soughtMany" "I"] : List Cond) ++ wsX120)
set_option maxRecDepth 20000 in
theorem gm_X12_count_X12_saidMany : GoodIn wm_X12_count (wsV RX12 248 RX12 yX12_saidMany wm_X12_saidMany) := goodIn_w (List.forall_mem_append.mpr ⟨List.forall_mem_cons.mpr ⟨List.mem_cons_of_mem _ (List.mem_append_left _ (List.mem_of_getElem? (i := 2) rfl)), List.forall_mem_cons.mpr ⟨List.mem_cons_of_mem _ (List.mem_append_left _ (List.mem_of_getElem? (i := 3) rfl)), List.forall_mem_cons.mpr ⟨List.mem_cons_of_mem _ (List.mem_append_left _ (List.mem_of_getElem? (i := 4) rfl)), List.forall_mem_cons.mpr ⟨List.mem_cons_of_mem _ (List.mem_append_left _ (List.mem_of_getElem? (i := 5) rfl)), (fun _ h => absurd h List.not_mem_nil)⟩⟩⟩⟩, List.forall_mem_cons.mpr ⟨List.mem_cons_of_mem _ (List.mem_append_left _ (List.mem_of_getElem? (i := 6) rfl)), List.forall_mem_append.mpr ⟨List.forall_mem_cons.mpr ⟨List.mem_cons_of_mem _ (List.mem_append_left _ (List.mem_of_getElem? (i := 7) rfl)), List.forall_mem_cons.mpr ⟨List.mem_cons_of_mem _ (List.mem_append_left _ (List.mem_of_getElem? (i := 8) rfl)), (fun _ h => absurd h List.not_mem_nil)⟩⟩, (fun _ h => List.mem_cons_of_mem _ (List.mem_append_right _ h))⟩⟩⟩) (by decide +kernel)
set_option maxHeartbeats 4000000 in
set_option maxRecDepth 100000 in
theorem s_X12_count (l : Launch) (D : va_G) (sz : Nat) (o : Nat) (a : Nat → Nat) (t : Nat → ClassId) (i : Nat → Int32) (q : Int64) (c : Nat → Nat → Int32) (d : Nat → Nat → Int64) (w : Int32) (hI : mInv i c) : Met l yX12_count wm_X12_count ({ frames := 1, cells := 0, slots := 0, locals := 22 }) (va_Pc [.ref o, .int w] (pA D sz (mW o a t i q c d) (mT t))) (va_Qi (fun (r : Int32) (_ : Unit) => True) oA (ro sz)) 0 0 (ro sz) := by
  refine Met.ofW (cc := cX12_count) (maxL := 2) (ret := (some .int)) (by decide +kernel) rfl ?_
  intro p e s m args below meth cd s₁ B hml hv
  obtain ⟨rfl, hsz, hP, hK⟩ := hv
  have hx := B.exec
  have hb := B.bytes
  have hr := B.returns
  have hts := atoms_spec (ws := wm_X12_count) B.pre
  have hown : s.vm.findClass RX12 = some m.cls := findClass_of_methodNamed B.named
  have hlocks := B.notSynchronized
  subst hsz
  have hA : ∀ q : Nat, s.heap.size ≤ q → ro s.heap.size q := fun _ h => h
  have hS : va_S (ro s.heap.size) s.heap s.heap [] := va_S.rf
  have hl := lv_entry ([.ref o, .int w]) (n := 2) (Nat.le_of_ble_eq_true rfl)
  rw [lg_entry_eq]
  generalize (lg_sl ([.ref o, .int w]) ++ List.replicate (2 - (lg_sl ([.ref o, .int w])).length) Slot.unset).toArray = ls at hl ⊢
  have hl : lv_has ls 2 [(0, .ref o), (1, .int w)] := hl
  refine lv_iload_n hx hb dX12_count_0 rfl (lv_at hl 1 rfl) ?_
  rcases (show (w.toInt < 0 ∨ 7 < w.toInt) ∨ w.toInt = 0 ∨ w.toInt = 1 ∨ w.toInt = 2 ∨ w.toInt = 3 ∨ w.toInt = 4 ∨ w.toInt = 5 ∨ w.toInt = 6 ∨ w.toInt = 7 by omega) with f1 | f1 | f1 | f1 | f1 | f1 | f1 | f1 | f1
  · refine lv_tableOut (tgt := 88) hx hb dX12_count_1 f1 (by decide +kernel) ?_
    refine lv_iconst (v := (-1)) hx hb dX12_count_88 (by decide +kernel) ?_
    exact ro_iret hx hb hr hlocks hS dX12_count_89 trivial
  · refine lv_tableIn (off := 47) (tgt := 48) hx hb dX12_count_1 (by omega) (by omega) (by rw [f1]; rfl) (by decide +kernel) ?_
    refine lv_aload_n hx hb dX12_count_48 rfl (lv_at hl 0 rfl) ?_
    refine mget_2 (v := (i 2)) rfl hx hb hts (fun _ h => List.mem_cons_of_mem _ (List.mem_append_right _ h)) hown hK hP (hts (.fieldLink RX12 151 "TalePlayModel" "kinds" "I") (List.mem_cons_of_mem _ (List.mem_append_left _ (List.mem_of_getElem? (i := 0) rfl)))) dX12_count_49 ?_
    have rb2_i : 6 ≤ (i 2).toInt ∧ (i 2).toInt ≤ 24 := hI.1 2
    exact ro_iret hx hb hr hlocks hS dX12_count_52 trivial
  · refine lv_tableIn (off := 52) (tgt := 53) hx hb dX12_count_1 (by omega) (by omega) (by rw [f1]; rfl) (by decide +kernel) ?_
    refine lv_aload_n hx hb dX12_count_53 rfl (lv_at hl 0 rfl) ?_
    refine mget_5 (v := (i 5)) rfl hx hb hts (fun _ h => List.mem_cons_of_mem _ (List.mem_append_right _ h)) hown hK hP (hts (.fieldLink RX12 177 "TalePlayModel" "objects" "I") (List.mem_cons_of_mem _ (List.mem_append_left _ (List.mem_of_getElem? (i := 1) rfl)))) dX12_count_54 ?_
    have rb5_i : 0 ≤ (i 5).toInt ∧ (i 5).toInt ≤ 30 := hI.1 5
    exact ro_iret hx hb hr hlocks hS dX12_count_57 trivial
  · refine lv_tableIn (off := 57) (tgt := 58) hx hb dX12_count_1 (by omega) (by omega) (by rw [f1]; rfl) (by decide +kernel) ?_
    refine lv_aload_n hx hb dX12_count_58 rfl (lv_at hl 0 rfl) ?_
    refine ro_calli (va_runV (As := []) (rest := []) ⟨hx, hb, hml, hown, hts⟩ (s_X12_saidMany l D s.heap.size o a t i q c d  hI ) (cwV 0 hts gm_X12_count_X12_saidMany rfl rfl rfl (by decide +kernel) ⟨Nat.le_of_ble_eq_true rfl, Nat.le_of_ble_eq_true rfl⟩) (pA_V hK hP (ci := 12) (q0 := 0) rfl rfl) rfl rfl hl.1 rfl (lv_room (Nat.le_of_ble_eq_true rfl)) dX12_count_59 ⟨Nat.le_of_ble_eq_true rfl, Nat.le_of_ble_eq_true rfl⟩) hS hA hP (fun r2 u2 H locs hw2 hP hS => ?_)
    have hw2 : (0 ≤ r2.toInt ∧ r2.toInt ≤ 200) := hw2
    exact ro_iret hx hb hr hlocks hS dX12_count_62 trivial
  · refine lv_tableIn (off := 62) (tgt := 63) hx hb dX12_count_1 (by omega) (by omega) (by rw [f1]; rfl) (by decide +kernel) ?_
    refine lv_aload_n hx hb dX12_count_63 rfl (lv_at hl 0 rfl) ?_
    refine mget_8 (v := (i 8)) rfl hx hb hts (fun _ h => List.mem_cons_of_mem _ (List.mem_append_right _ h)) hown hK hP (hts (.fieldLink RX12 202 "TalePlayModel" "sentences" "I") (List.mem_cons_of_mem _ (List.mem_append_left _ (List.mem_of_getElem? (i := 7) rfl)))) dX12_count_64 ?_
    have rb8_i : 0 ≤ (i 8).toInt ∧ (i 8).toInt ≤ 200 := hI.1 8
    exact ro_iret hx hb hr hlocks hS dX12_count_67 trivial
  · refine lv_tableIn (off := 67) (tgt := 68) hx hb dX12_count_1 (by omega) (by omega) (by rw [f1]; rfl) (by decide +kernel) ?_
    refine lv_aload_n hx hb dX12_count_68 rfl (lv_at hl 0 rfl) ?_
    refine mget_64 (v := (i 64)) rfl hx hb hts (fun _ h => List.mem_cons_of_mem _ (List.mem_append_right _ h)) hown hK hP (hts (.fieldLink RX12 450 "TalePlayModel" "casts" "I") (List.mem_cons_of_mem _ (List.mem_append_left _ (List.mem_of_getElem? (i := 9) rfl)))) dX12_count_69 ?_
    have rb64_i : 0 ≤ (i 64).toInt ∧ (i 64).toInt ≤ 10 := hI.1 64
    exact ro_iret hx hb hr hlocks hS dX12_count_72 trivial
  · refine lv_tableIn (off := 72) (tgt := 73) hx hb dX12_count_1 (by omega) (by omega) (by rw [f1]; rfl) (by decide +kernel) ?_
    refine lv_aload_n hx hb dX12_count_73 rfl (lv_at hl 0 rfl) ?_
    refine mget_27 (v := (i 27)) rfl hx hb hts (fun _ h => List.mem_cons_of_mem _ (List.mem_append_right _ h)) hown hK hP (hts (.fieldLink RX12 291 "TalePlayModel" "turns" "I") (List.mem_cons_of_mem _ (List.mem_append_left _ (List.mem_of_getElem? (i := 10) rfl)))) dX12_count_74 ?_
    have rb27_i : 0 ≤ (i 27).toInt ∧ (i 27).toInt ≤ 100 := hI.1 27
    exact ro_iret hx hb hr hlocks hS dX12_count_77 trivial
  · refine lv_tableIn (off := 77) (tgt := 78) hx hb dX12_count_1 (by omega) (by omega) (by rw [f1]; rfl) (by decide +kernel) ?_
    refine lv_aload_n hx hb dX12_count_78 rfl (lv_at hl 0 rfl) ?_
    refine mget_22 (v := (i 22)) rfl hx hb hts (fun _ h => List.mem_cons_of_mem _ (List.mem_append_right _ h)) hown hK hP (hts (.fieldLink RX12 155 "TalePlayModel" "player" "I") (List.mem_cons_of_mem _ (List.mem_append_left _ (List.mem_of_getElem? (i := 11) rfl)))) dX12_count_79 ?_
    have rb22_i : (i 22).toInt = -9 ∨ (0 ≤ (i 22).toInt ∧ (i 22).toInt ≤ 29) := hI.1 22
    exact ro_iret hx hb hr hlocks hS dX12_count_82 trivial
  · refine lv_tableIn (off := 82) (tgt := 83) hx hb dX12_count_1 (by omega) (by omega) (by rw [f1]; rfl) (by decide +kernel) ?_
    refine lv_aload_n hx hb dX12_count_83 rfl (lv_at hl 0 rfl) ?_
    refine mget_57 (v := (i 57)) rfl hx hb hts (fun _ h => List.mem_cons_of_mem _ (List.mem_append_right _ h)) hown hK hP (hts (.fieldLink RX12 158 "TalePlayModel" "soughtMany" "I") (List.mem_cons_of_mem _ (List.mem_append_left _ (List.mem_of_getElem? (i := 12) rfl)))) dX12_count_84 ?_
    have rb57_i : (i 57).toInt = -9 ∨ (0 ≤ (i 57).toInt ∧ (i 57).toInt ≤ 300) := hI.1 57
    exact ro_iret hx hb hr hlocks hS dX12_count_87 trivial

