def wm_X2_note : List Cond := .code yX2_note cX2_note 2 none :: (([.fieldLink RX2 27 "TalePlay$Bulks" "tracing" "Z"] : List Cond) ++ wsX20)
set_option maxHeartbeats 4000000 in
set_option maxRecDepth 100000 in
theorem x_X2_note (l : Launch) (D : va_G) (sz : Nat) (sk : Value) (a : Nat → Nat) (t : Nat → ClassId) (i : Nat → Int32) (q : Int64) (c : Nat → Nat → Int32) (d : Nat → Nat → Int64) (b1 : Int32) (hI : xInv i c) (htr : (i 141).toInt = 0) : Met l yX2_note wm_X2_note ({ frames := 0, cells := 0, slots := 0, locals := 0 }) (va_Pc [.ref (a 138), .int b1] (yA (a 186) D sz (xwB sk a t i q c d) (xtB t))) (va_Qv (fun (_ : Unit) => True) oA (ro sz)) 0 0 (ro sz) := by
  refine Met.ofW (cc := cX2_note) (maxL := 2) (ret := none) (by decide +kernel) rfl ?_
  intro p e s m args below meth cd s₁ B hml hv
  obtain ⟨rfl, ⟨hsz, hP, hK⟩, hN, hZ⟩ := hv
  have hx := B.exec
  have hb := B.bytes
  have hr := B.returns
  have hts := atoms_spec (ws := wm_X2_note) B.pre
  have hown : s.vm.findClass RX2 = some m.cls := findClass_of_methodNamed B.named
  have hlocks := B.notSynchronized
  subst hsz
  have hA : ∀ q : Nat, s.heap.size ≤ q → ro s.heap.size q := fun _ h => h
  have hS : va_S (ro s.heap.size) s.heap s.heap [] := va_S.rf
  have hl := lv_entry ([.ref (a 138), .int b1]) (n := 2) (Nat.le_of_ble_eq_true rfl)
  rw [lg_entry_eq]
  generalize (lg_sl ([.ref (a 138), .int b1]) ++ List.replicate (2 - (lg_sl ([.ref (a 138), .int b1])).length) Slot.unset).toArray = ls at hl ⊢
  have hl : lv_has ls 2 [(0, .ref (a 138)), (1, .int b1)] := hl
  refine lv_aload_n hx hb dX2_note_0 rfl (lv_at hl 0 rfl) ?_
  refine xgB_K_tracing (v := (i 141)) rfl hx hb hts (fun _ h => List.mem_cons_of_mem _ (List.mem_append_right _ h)) hown hK hP (hts (.fieldLink RX2 27 "TalePlay$Bulks" "tracing" "Z") (List.mem_cons_of_mem _ (List.mem_append_left _ (List.mem_of_getElem? (i := 0) rfl)))) dX2_note_1 ?_
  have rb141_i : 0 ≤ (i 141).toInt ∧ (i 141).toInt ≤ 1 := hI.1 141
  refine lv_if_eq (tgt := 33) hx hb dX2_note_4 (by decide +kernel) (fun c1 => ?_) (fun c1 => ?_)
  · have f1 := (ti_eq (a := (i 141).toInt) (b := 0) rfl (by decide +kernel)).mp c1
    exact ro_vret hx hb hr hlocks hS dX2_note_33 trivial
  · have f1 := mt (ti_eq (a := (i 141).toInt) (b := 0) rfl (by decide +kernel)).mpr c1
    exfalso; omega

def wm_X2_noteBodies : List Cond := .code yX2_noteBodies cX2_noteBodies 2 none :: (([.fieldLink RX2 60 "TalePlay$Bulks" "BODIES" "[I", .methodLink RX2 63 yX2_note, .instanceMethod yX2_note, .selects RX2 yX2_note yX2_note, .initialized RX2, .code yX2_note cX2_note 2 none, .fieldLink RX2 27 "TalePlay$Bulks" "tracing" "Z"] : List Cond) ++ wsX20)
set_option maxRecDepth 20000 in
theorem gm_X2_noteBodies_X2_note_63 : GoodIn wm_X2_noteBodies (wsV RX2 63 RX2 yX2_note wm_X2_note) := goodIn_w (List.forall_mem_append.mpr ⟨List.forall_mem_cons.mpr ⟨List.mem_cons_of_mem _ (List.mem_append_left _ (List.mem_of_getElem? (i := 1) rfl)), List.forall_mem_cons.mpr ⟨List.mem_cons_of_mem _ (List.mem_append_left _ (List.mem_of_getElem? (i := 2) rfl)), List.forall_mem_cons.mpr ⟨List.mem_cons_of_mem _ (List.mem_append_left _ (List.mem_of_getElem? (i := 3) rfl)), List.forall_mem_cons.mpr ⟨List.mem_cons_of_mem _ (List.mem_append_left _ (List.mem_of_getElem? (i := 4) rfl)), (fun _ h => absurd h List.not_mem_nil)⟩⟩⟩⟩, List.forall_mem_cons.mpr ⟨List.mem_cons_of_mem _ (List.mem_append_left _ (List.mem_of_getElem? (i := 5) rfl)), List.forall_mem_append.mpr ⟨List.forall_mem_cons.mpr ⟨List.mem_cons_of_mem _ (List.mem_append_left _ (List.mem_of_getElem? (i := 6) rfl)), (fun _ h => absurd h List.not_mem_nil)⟩, (fun _ h => List.mem_cons_of_mem _ (List.mem_append_right _ h))⟩⟩⟩) (by decide +kernel)
set_option maxHeartbeats 4000000 in
set_option maxRecDepth 100000 in
theorem x_X2_noteBodies (l : Launch) (D : va_G) (sz : Nat) (sk : Value) (a : Nat → Nat) (t : Nat → ClassId) (i : Nat → Int32) (q : Int64) (c : Nat → Nat → Int32) (d : Nat → Nat → Int64) (s1 : Int32) (hI : xInv i c) (htr : (i 141).toInt = 0) : Met l yX2_noteBodies wm_X2_noteBodies ({ frames := 1, cells := 0, slots := 0, locals := 21 }) (va_Pc [.ref (a 138), .int s1] (yA (a 186) D sz (xwB sk a t i q c d) (xtB t))) (va_Qv (fun (_ : Unit) => True) oA (ro sz)) 0 0 (ro sz) := by
  refine Met.ofW (cc := cX2_noteBodies) (maxL := 2) (ret := none) (by decide +kernel) rfl ?_
  intro p e s m args below meth cd s₁ B hml hv
  obtain ⟨rfl, ⟨hsz, hP, hK⟩, hN, hZ⟩ := hv
  have hx := B.exec
  have hb := B.bytes
  have hr := B.returns
  have hts := atoms_spec (ws := wm_X2_noteBodies) B.pre
  have hown : s.vm.findClass RX2 = some m.cls := findClass_of_methodNamed B.named
  have hlocks := B.notSynchronized
  subst hsz
  have hA : ∀ q : Nat, s.heap.size ≤ q → ro s.heap.size q := fun _ h => h
  have hS : va_S (ro s.heap.size) s.heap s.heap [] := va_S.rf
  have hl := lv_entry ([.ref (a 138), .int s1]) (n := 2) (Nat.le_of_ble_eq_true rfl)
  rw [lg_entry_eq]
  generalize (lg_sl ([.ref (a 138), .int s1]) ++ List.replicate (2 - (lg_sl ([.ref (a 138), .int s1])).length) Slot.unset).toArray = ls at hl ⊢
  have hl : lv_has ls 2 [(0, .ref (a 138)), (1, .int s1)] := hl
  refine lv_iload_n hx hb dX2_noteBodies_0 rfl (lv_at hl 1 rfl) ?_
  refine lv_iconst (v := 3) hx hb dX2_noteBodies_1 (by decide +kernel) ?_
  have jn1 : ∀ (H : Heap) (locs : List Loc) (ls : Array Slot), va_P D vwCl (xwB sk a t i q c d) H → va_S (ro s.heap.size) s.heap H locs → lv_has ls 2 [(0, .ref (a 138)), (1, .int s1)] → W p l e (headSpec wm_X2_noteBodies ({ frames := 1, cells := 0, slots := 0, locals := 21 })).room s m ([.ref (a 138), .int s1] : List Value).toArray below meth cd H locs 0 0 (MQ below (va_Qv (fun (_ : Unit) => True) oA (ro s.heap.size)) ([.ref (a 138), .int s1] : List Value).toArray s 0 0 (ro s.heap.size)) (F0 m 29 ls []) := by
    intro H locs ls hP hS hl
    refine lv_aload_n hx hb dX2_noteBodies_29 rfl (lv_at hl 0 rfl) ?_
    refine va_gets hx hb hZ.1 hS hown (hts (.fieldLink RX2 60 "TalePlay$Bulks" "BODIES" "[I") (List.mem_cons_of_mem _ (List.mem_append_left _ (List.mem_of_getElem? (i := 0) rfl)))) (fun _ h9 => h9) dX2_noteBodies_30 ?_
    refine lv_iconst (v := 1) hx hb dX2_noteBodies_33 (by decide +kernel) ?_
    refine va_ti (v := .int (bodV (1 : Int32).toNatClampNeg)) hx hb hZ.2 hS (show vp_in 1 6 from by unfold vp_in; decide) rfl dX2_noteBodies_34 ?_
    refine lv_topi (fun x2 ex2 => ?_)
    have rb141_i : 0 ≤ (i 141).toInt ∧ (i 141).toInt ≤ 1 := hI.1 141
    refine ro_callv (va_runV (As := [.int x2]) (rest := []) ⟨hx, hb, hml, hown, hts⟩ (x_X2_note l D H.size .null a t i q c d x2 hI (show ((i 141) : Int32).toInt = 0 from by omega)) (cwV 1 hts gm_X2_noteBodies_X2_note_63 rfl rfl rfl (by decide +kernel) ⟨Nat.le_of_ble_eq_true rfl, Nat.le_of_ble_eq_true rfl⟩) (yA_V hN (xZ_k hZ hS hA) hK hP (ci := 2) (q0 := 29) rfl rfl) rfl rfl hl.1 rfl (lv_room (Nat.le_of_ble_eq_true rfl)) dX2_noteBodies_35 ⟨Nat.le_of_ble_eq_true rfl, Nat.le_of_ble_eq_true rfl⟩) hS hA hP (fun u3 H locs hw3 hP hS => ?_)
    exact ro_vret hx hb hr hlocks hS dX2_noteBodies_38 trivial
  have jn4 : (2 ≤ s1.toInt ∧ s1.toInt ≤ 5) → ∀ (H : Heap) (locs : List Loc) (ls : Array Slot), va_P D vwCl (xwB sk a t i q c d) H → va_S (ro s.heap.size) s.heap H locs → lv_has ls 2 [(0, .ref (a 138)), (1, .int s1)] → W p l e (headSpec wm_X2_noteBodies ({ frames := 1, cells := 0, slots := 0, locals := 21 })).room s m ([.ref (a 138), .int s1] : List Value).toArray below meth cd H locs 0 0 (MQ below (va_Qv (fun (_ : Unit) => True) oA (ro s.heap.size)) ([.ref (a 138), .int s1] : List Value).toArray s 0 0 (ro s.heap.size)) (F0 m 20 ls []) := by
    intro hz4_0 H locs ls hP hS hl
    refine lv_aload_n hx hb dX2_noteBodies_20 rfl (lv_at hl 0 rfl) ?_
    refine va_gets hx hb hZ.1 hS hown (hts (.fieldLink RX2 60 "TalePlay$Bulks" "BODIES" "[I") (List.mem_cons_of_mem _ (List.mem_append_left _ (List.mem_of_getElem? (i := 0) rfl)))) (fun _ h9 => h9) dX2_noteBodies_21 ?_
    refine lv_iload_n hx hb dX2_noteBodies_24 rfl (lv_at hl 1 rfl) ?_
    refine va_ti (v := .int (bodV (s1 : Int32).toNatClampNeg)) hx hb hZ.2 hS (vp_in_iff.mpr (by have h9 : s1.toInt = s1.toInt := rfl; omega)) rfl dX2_noteBodies_25 ?_
    refine lv_topi (fun x5 ex5 => ?_)
    have rb141_i : 0 ≤ (i 141).toInt ∧ (i 141).toInt ≤ 1 := hI.1 141
    refine ro_callv (va_runV (As := [.int x5]) (rest := []) ⟨hx, hb, hml, hown, hts⟩ (x_X2_note l D H.size .null a t i q c d x5 hI (show ((i 141) : Int32).toInt = 0 from by omega)) (cwV 1 hts gm_X2_noteBodies_X2_note_63 rfl rfl rfl (by decide +kernel) ⟨Nat.le_of_ble_eq_true rfl, Nat.le_of_ble_eq_true rfl⟩) (yA_V hN (xZ_k hZ hS hA) hK hP (ci := 2) (q0 := 29) rfl rfl) rfl rfl hl.1 rfl (lv_room (Nat.le_of_ble_eq_true rfl)) dX2_noteBodies_26 ⟨Nat.le_of_ble_eq_true rfl, Nat.le_of_ble_eq_true rfl⟩) hS hA hP (fun u6 H locs hw6 hP hS => ?_)
    exact jn1    _ _ _ hP hS (lv_sub hl [0, 1] rfl)
  refine lv_icmp_eq (tgt := 20) hx hb dX2_noteBodies_2 (by decide +kernel) (fun c7 => ?_) (fun c7 => ?_)
  · have f7 := (ti_eq (a := s1.toInt) (b := 3) rfl (by decide +kernel)).mp c7
    exact jn4   (show 2 ≤ s1.toInt ∧ s1.toInt ≤ 5 from by omega) _ _ _ hP hS (lv_sub hl [0, 1] rfl)
  · have f7 := mt (ti_eq (a := s1.toInt) (b := 3) rfl (by decide +kernel)).mpr c7
    refine lv_iload_n hx hb dX2_noteBodies_5 rfl (lv_at hl 1 rfl) ?_
    refine lv_iconst (v := 4) hx hb dX2_noteBodies_6 (by decide +kernel) ?_
    refine lv_icmp_eq (tgt := 20) hx hb dX2_noteBodies_7 (by decide +kernel) (fun c8 => ?_) (fun c8 => ?_)
    · have f8 := (ti_eq (a := s1.toInt) (b := 4) rfl (by decide +kernel)).mp c8
      exact jn4   (show 2 ≤ s1.toInt ∧ s1.toInt ≤ 5 from by omega) _ _ _ hP hS (lv_sub hl [0, 1] rfl)
    · have f8 := mt (ti_eq (a := s1.toInt) (b := 4) rfl (by decide +kernel)).mpr c8
      refine lv_iload_n hx hb dX2_noteBodies_10 rfl (lv_at hl 1 rfl) ?_
      refine lv_iconst (v := 2) hx hb dX2_noteBodies_11 (by decide +kernel) ?_
      refine lv_icmp_eq (tgt := 20) hx hb dX2_noteBodies_12 (by decide +kernel) (fun c9 => ?_) (fun c9 => ?_)
      · have f9 := (ti_eq (a := s1.toInt) (b := 2) rfl (by decide +kernel)).mp c9
        exact jn4   (show 2 ≤ s1.toInt ∧ s1.toInt ≤ 5 from by omega) _ _ _ hP hS (lv_sub hl [0, 1] rfl)
      · have f9 := mt (ti_eq (a := s1.toInt) (b := 2) rfl (by decide +kernel)).mpr c9
        refine lv_iload_n hx hb dX2_noteBodies_15 rfl (lv_at hl 1 rfl) ?_
        refine lv_iconst (v := 5) hx hb dX2_noteBodies_16 (by decide +kernel) ?_
        refine lv_icmp_ne (tgt := 29) hx hb dX2_noteBodies_17 (by decide +kernel) (fun c10 => ?_) (fun c10 => ?_)
        · have f10 := mt (ti_eq (a := s1.toInt) (b := 5) rfl (by decide +kernel)).mpr c10
          exact jn1    _ _ _ hP hS (lv_sub hl [0, 1] rfl)
        · have f10 := (ti_eq (a := s1.toInt) (b := 5) rfl (by decide +kernel)).mp c10
          exact jn4   (show 2 ≤ s1.toInt ∧ s1.toInt ≤ 5 from by omega) _ _ _ hP hS (lv_sub hl [0, 1] rfl)

def wm_X2_note_w : List Cond := .code yX2_note cX2_note 2 none :: (([.fieldLink RX2 27 "TalePlay$Bulks" "tracing" "Z", .fieldLink RX2 19 "TalePlay$Bulks" "traced" "I", .fieldLink RX2 9 "TalePlay$Bulks" "trace" "[I"] : List Cond) ++ wsX20)
set_option maxHeartbeats 4000000 in
set_option maxRecDepth 100000 in
theorem x_X2_note_w (l : Launch) (D : va_G) (sz : Nat) (sk : Value) (a : Nat → Nat) (t : Nat → ClassId) (i : Nat → Int32) (q : Int64) (c : Nat → Nat → Int32) (d : Nat → Nat → Int64) (b1 : Int32) (hI : xInv i c) : Met l yX2_note wm_X2_note_w ({ frames := 0, cells := 0, slots := 0, locals := 0 }) (va_Pc [.ref (a 138), .int b1] (yB (a 186) D sz (xwT sk a t i q c d) (xtT t))) (va_Qv (fun (u : MS) => True ∧ xInv u.1 u.2.2.1 ∧ (∀ k, k ∉ ([140] : List Nat) → u.1 k = i k) ∧ (∀ k, k ∉ ([139] : List Nat) → u.2.2.1 k = c k) ∧ (q = u.2.1) ∧ (d = u.2.2.2)) (oC D (va_A (xwT sk a t i q c d) sz) (fun u : MS => xwT sk a t u.1 u.2.1 u.2.2.1 u.2.2.2) (fun _ => [])) (va_A (xwT sk a t i q c d) sz)) 0 0 (va_A (xwT sk a t i q c d) sz) := by
  refine Met.ofW (cc := cX2_note) (maxL := 2) (ret := none) (by decide +kernel) rfl ?_
  intro p e s m args below meth cd s₁ B hml hv
  obtain ⟨rfl, ⟨hsz, hP, hK, hD0⟩, hN, hZ, hBW⟩ := hv
  have hx := B.exec
  have hb := B.bytes
  have hr := B.returns
  have hts := atoms_spec (ws := wm_X2_note_w) B.pre
  have hown : s.vm.findClass RX2 = some m.cls := findClass_of_methodNamed B.named
  have hlocks := B.notSynchronized
  subst hsz
  have hD := hD0.self (sz := s.heap.size)
  have hZ := xZ_A hZ hP hBW
  generalize hAe : va_A (xwT sk a t i q c d) s.heap.size = A at hD hZ ⊢
  have hA : ∀ q : Nat, s.heap.size ≤ q → A q := fun q h => by rw [← hAe]; exact Or.inr h
  have hS : va_S A s.heap s.heap [] := va_S.rf
  have hfi : ∀ k, k ∉ ([] : List Nat) → i k = i k := fun _ _ => rfl
  have hfc : ∀ k, k ∉ ([] : List Nat) → c k = c k := fun _ _ => rfl
  have hl := lv_entry ([.ref (a 138), .int b1]) (n := 2) (Nat.le_of_ble_eq_true rfl)
  rw [lg_entry_eq]
  generalize (lg_sl ([.ref (a 138), .int b1]) ++ List.replicate (2 - (lg_sl ([.ref (a 138), .int b1])).length) Slot.unset).toArray = ls at hl ⊢
  have hl : lv_has ls 2 [(0, .ref (a 138)), (1, .int b1)] := hl
  refine lv_aload_n hx hb dX2_note_0 rfl (lv_at hl 0 rfl) ?_
  refine xgT_K_tracing (v := (i 141)) rfl hx hb hts (fun _ h => List.mem_cons_of_mem _ (List.mem_append_right _ h)) hown hK hP (hts (.fieldLink RX2 27 "TalePlay$Bulks" "tracing" "Z") (List.mem_cons_of_mem _ (List.mem_append_left _ (List.mem_of_getElem? (i := 0) rfl)))) dX2_note_1 ?_
  have rb141_i : 0 ≤ (i 141).toInt ∧ (i 141).toInt ≤ 1 := hI.1 141
  refine lv_if_eq (tgt := 33) hx hb dX2_note_4 (by decide +kernel) (fun c1 => ?_) (fun c1 => ?_)
  · have f1 := (ti_eq (a := (i 141).toInt) (b := 0) rfl (by decide +kernel)).mp c1
    exact rw_vret (i, q, c, d) hx hb hr hlocks hS (hK.sub (tys' := []) [] rfl) hP hD dX2_note_33 ⟨trivial, hI, fr_w hfi (by decide +kernel), fr_w hfc (by decide +kernel), rfl, rfl⟩
  · have f1 := mt (ti_eq (a := (i 141).toInt) (b := 0) rfl (by decide +kernel)).mpr c1
    refine lv_aload_n hx hb dX2_note_7 rfl (lv_at hl 0 rfl) ?_
    refine xgT_K_traced (v := (i 140)) rfl hx hb hts (fun _ h => List.mem_cons_of_mem _ (List.mem_append_right _ h)) hown hK hP (hts (.fieldLink RX2 19 "TalePlay$Bulks" "traced" "I") (List.mem_cons_of_mem _ (List.mem_append_left _ (List.mem_of_getElem? (i := 1) rfl)))) dX2_note_8 ?_
    have rb140_i : 0 ≤ (i 140).toInt ∧ (i 140).toInt ≤ 100 := hI.1 140
    refine lv_bipush (v := 100) hx hb dX2_note_11 (by decide +kernel) ?_
    refine lv_icmp_ge (tgt := 33) hx hb dX2_note_13 (by decide +kernel) (fun c2 => ?_) (fun c2 => ?_)
    · have f2 := (ti_le (a := 100) (b := (i 140).toInt) (by decide +kernel) rfl).mp c2
      exact rw_vret (i, q, c, d) hx hb hr hlocks hS (hK.sub (tys' := []) [] rfl) hP hD dX2_note_33 ⟨trivial, hI, fr_w hfi (by decide +kernel), fr_w hfc (by decide +kernel), rfl, rfl⟩
    · have f2 := mt (ti_le (a := 100) (b := (i 140).toInt) (by decide +kernel) rfl).mpr c2
      refine lv_aload_n hx hb dX2_note_16 rfl (lv_at hl 0 rfl) ?_
      refine xgT_K_trace hx hb hts (fun _ h => List.mem_cons_of_mem _ (List.mem_append_right _ h)) hown hK hP (hts (.fieldLink RX2 9 "TalePlay$Bulks" "trace" "[I") (List.mem_cons_of_mem _ (List.mem_append_left _ (List.mem_of_getElem? (i := 2) rfl)))) dX2_note_17 ?_
      refine lv_aload_n hx hb dX2_note_20 rfl (lv_at hl 0 rfl) ?_
      refine lv_dup hx hb dX2_note_21 rfl ?_
      refine xgT_K_traced (v := (i 140)) rfl hx hb hts (fun _ h => List.mem_cons_of_mem _ (List.mem_append_right _ h)) hown hK hP (hts (.fieldLink RX2 19 "TalePlay$Bulks" "traced" "I") (List.mem_cons_of_mem _ (List.mem_append_left _ (List.mem_of_getElem? (i := 1) rfl)))) dX2_note_22 ?_
      refine lv_dup_x1 hx hb dX2_note_25 rfl rfl ?_
      refine lv_iconst (v := 1) hx hb dX2_note_26 (by decide +kernel) ?_
      refine lv_iadd hx hb dX2_note_27 ?_
      refine lv_topi (fun x3 ex3 => ?_)
      have tx3 := ti_add (a := (i 140).toInt) (b := 1) ex3 rfl (by decide +kernel) (by omega) (by omega)
      refine xpT_K_traced hx hb hts (fun _ h => List.mem_cons_of_mem _ (List.mem_append_right _ h)) hown hK hP hD hS (hts (.fieldLink RX2 19 "TalePlay$Bulks" "traced" "I") (List.mem_cons_of_mem _ (List.mem_append_left _ (List.mem_of_getElem? (i := 1) rfl)))) rfl rfl dX2_note_28 (fun H locs hP hD hS => ?_)
      have hI := xInv_i hI (k := 140) (v := x3) (show 0 ≤ (x3 : Int32).toInt ∧ (x3 : Int32).toInt ≤ 100 from by have h9 : x3.toInt = ((i 140).toInt + 1) := tx3; omega)
      have hfi : ∀ k, k ∉ ([140] : List Nat) → (upd i 140 x3) k = i k := fr_iz hfi (by decide +kernel) (by decide +kernel)
      refine lv_iload_n hx hb dX2_note_31 rfl (lv_at hl 1 rfl) ?_
      refine xsT_139 hx hb hK hP hD hS (vp_in_iff.mpr (by have h9 : (i 140).toInt = (i 140).toInt := rfl; omega)) dX2_note_32 (fun H locs hP hD hS => ?_)
      have hI := xInv_c hI (k := 139) (j := ((i 140) : Int32).toNatClampNeg) (x := b1) (show True from trivial)
      have hfc : ∀ k, k ∉ ([139] : List Nat) → (updA c 139 ((i 140) : Int32).toNatClampNeg b1) k = c k := fr_cz hfc (by decide +kernel) (by decide +kernel)
      exact rw_vret ((upd i 140 x3), q, (updA c 139 ((i 140) : Int32).toNatClampNeg b1), d) hx hb hr hlocks hS (hK.sub (tys' := []) [] rfl) hP hD dX2_note_33 ⟨trivial, hI, fr_w hfi (by decide +kernel), fr_w hfc (by decide +kernel), rfl, rfl⟩

def wm_X2_noteBodies_w : List Cond := .code yX2_noteBodies cX2_noteBodies 2 none :: (([.fieldLink RX2 60 "TalePlay$Bulks" "BODIES" "[I", .methodLink RX2 63 yX2_note, .instanceMethod yX2_note, .selects RX2 yX2_note yX2_note, .initialized RX2, .code yX2_note cX2_note 2 none, .fieldLink RX2 27 "TalePlay$Bulks" "tracing" "Z", .fieldLink RX2 19 "TalePlay$Bulks" "traced" "I", .fieldLink RX2 9 "TalePlay$Bulks" "trace" "[I"] : List Cond) ++ wsX20)
set_option maxRecDepth 20000 in
theorem gm_X2_noteBodies_w_X2_note_w_63 : GoodIn wm_X2_noteBodies_w (wsV RX2 63 RX2 yX2_note wm_X2_note_w) := goodIn_w (List.forall_mem_append.mpr ⟨List.forall_mem_cons.mpr ⟨List.mem_cons_of_mem _ (List.mem_append_left _ (List.mem_of_getElem? (i := 1) rfl)), List.forall_mem_cons.mpr ⟨List.mem_cons_of_mem _ (List.mem_append_left _ (List.mem_of_getElem? (i := 2) rfl)), List.forall_mem_cons.mpr ⟨List.mem_cons_of_mem _ (List.mem_append_left _ (List.mem_of_getElem? (i := 3) rfl)), List.forall_mem_cons.mpr ⟨List.mem_cons_of_mem _ (List.mem_append_left _ (List.mem_of_getElem? (i := 4) rfl)), (fun _ h => absurd h List.not_mem_nil)⟩⟩⟩⟩, List.forall_mem_cons.mpr ⟨List.mem_cons_of_mem _ (List.mem_append_left _ (List.mem_of_getElem? (i := 5) rfl)), List.forall_mem_append.mpr ⟨List.forall_mem_cons.mpr ⟨List.mem_cons_of_mem _ (List.mem_append_left _ (List.mem_of_getElem? (i := 6) rfl)), List.forall_mem_cons.mpr ⟨List.mem_cons_of_mem _ (List.mem_append_left _ (List.mem_of_getElem? (i := 7) rfl)), List.forall_mem_cons.mpr ⟨List.mem_cons_of_mem _ (List.mem_append_left _ (List.mem_of_getElem? (i := 8) rfl)), (fun _ h => absurd h List.not_mem_nil)⟩⟩⟩, (fun _ h => List.mem_cons_of_mem _ (List.mem_append_right _ h))⟩⟩⟩) (by decide +kernel)
set_option maxHeartbeats 4000000 in
set_option maxRecDepth 100000 in
theorem x_X2_noteBodies_w (l : Launch) (D : va_G) (sz : Nat) (sk : Value) (a : Nat → Nat) (t : Nat → ClassId) (i : Nat → Int32) (q : Int64) (c : Nat → Nat → Int32) (d : Nat → Nat → Int64) (s1 : Int32) (hI : xInv i c) : Met l yX2_noteBodies wm_X2_noteBodies_w ({ frames := 1, cells := 0, slots := 0, locals := 21 }) (va_Pc [.ref (a 138), .int s1] (yB (a 186) D sz (xwT sk a t i q c d) (xtT t))) (va_Qv (fun (u : MS) => True ∧ xInv u.1 u.2.2.1 ∧ (∀ k, k ∉ ([140] : List Nat) → u.1 k = i k) ∧ (∀ k, k ∉ ([139] : List Nat) → u.2.2.1 k = c k) ∧ (q = u.2.1) ∧ (d = u.2.2.2)) (oC D (va_A (xwT sk a t i q c d) sz) (fun u : MS => xwT sk a t u.1 u.2.1 u.2.2.1 u.2.2.2) (fun _ => [])) (va_A (xwT sk a t i q c d) sz)) 0 0 (va_A (xwT sk a t i q c d) sz) := by
  refine Met.ofW (cc := cX2_noteBodies) (maxL := 2) (ret := none) (by decide +kernel) rfl ?_
  intro p e s m args below meth cd s₁ B hml hv
  obtain ⟨rfl, ⟨hsz, hP, hK, hD0⟩, hN, hZ, hBW⟩ := hv
  have hx := B.exec
  have hb := B.bytes
  have hr := B.returns
  have hts := atoms_spec (ws := wm_X2_noteBodies_w) B.pre
  have hown : s.vm.findClass RX2 = some m.cls := findClass_of_methodNamed B.named
  have hlocks := B.notSynchronized
  subst hsz
  have hD := hD0.self (sz := s.heap.size)
  have hZ := xZ_A hZ hP hBW
  generalize hAe : va_A (xwT sk a t i q c d) s.heap.size = A at hD hZ ⊢
  have hA : ∀ q : Nat, s.heap.size ≤ q → A q := fun q h => by rw [← hAe]; exact Or.inr h
  have hS : va_S A s.heap s.heap [] := va_S.rf
  have hfi : ∀ k, k ∉ ([] : List Nat) → i k = i k := fun _ _ => rfl
  have hfc : ∀ k, k ∉ ([] : List Nat) → c k = c k := fun _ _ => rfl
  have hl := lv_entry ([.ref (a 138), .int s1]) (n := 2) (Nat.le_of_ble_eq_true rfl)
  rw [lg_entry_eq]
  generalize (lg_sl ([.ref (a 138), .int s1]) ++ List.replicate (2 - (lg_sl ([.ref (a 138), .int s1])).length) Slot.unset).toArray = ls at hl ⊢
  have hl : lv_has ls 2 [(0, .ref (a 138)), (1, .int s1)] := hl
  refine lv_iload_n hx hb dX2_noteBodies_0 rfl (lv_at hl 1 rfl) ?_
  refine lv_iconst (v := 3) hx hb dX2_noteBodies_1 (by decide +kernel) ?_
  have jn1 : ∀ (i1 : Nat → Int32) (c1 : Nat → Nat → Int32), xInv i1 c1 → (∀ k, k ∉ ([140] : List Nat) → i1 k = i k) → (∀ k, k ∉ ([139] : List Nat) → c1 k = c k) → ∀ (H : Heap) (locs : List Loc) (ls : Array Slot), va_P D vwCl (xwT sk a t i1 q c1 d) H → va_D A (xwT sk a t i1 q c1 d) → va_S A s.heap H locs → lv_has ls 2 [(0, .ref (a 138)), (1, .int s1)] → W p l e (headSpec wm_X2_noteBodies_w ({ frames := 1, cells := 0, slots := 0, locals := 21 })).room s m ([.ref (a 138), .int s1] : List Value).toArray below meth cd H locs 0 0 (MQ below (va_Qv (fun (u : MS) => True ∧ xInv u.1 u.2.2.1 ∧ (∀ k, k ∉ ([140] : List Nat) → u.1 k = i k) ∧ (∀ k, k ∉ ([139] : List Nat) → u.2.2.1 k = c k) ∧ (q = u.2.1) ∧ (d = u.2.2.2)) (oC D A (fun u : MS => xwT sk a t u.1 u.2.1 u.2.2.1 u.2.2.2) (fun _ => [])) A) ([.ref (a 138), .int s1] : List Value).toArray s 0 0 A) (F0 m 29 ls []) := by
    intro i1 c1 hI hfi hfc H locs ls hP hD hS hl
    refine lv_aload_n hx hb dX2_noteBodies_29 rfl (lv_at hl 0 rfl) ?_
    refine va_gets hx hb hZ.1 hS hown (hts (.fieldLink RX2 60 "TalePlay$Bulks" "BODIES" "[I") (List.mem_cons_of_mem _ (List.mem_append_left _ (List.mem_of_getElem? (i := 0) rfl)))) (fun _ h9 => h9) dX2_noteBodies_30 ?_
    refine lv_iconst (v := 1) hx hb dX2_noteBodies_33 (by decide +kernel) ?_
    refine va_ti (v := .int (bodV (1 : Int32).toNatClampNeg)) hx hb hZ.2 hS (show vp_in 1 6 from by unfold vp_in; decide) rfl dX2_noteBodies_34 ?_
    refine lv_topi (fun x2 ex2 => ?_)
    refine al_callv (va_runV (As := [.int x2]) (rest := []) ⟨hx, hb, hml, hown, hts⟩ (x_X2_note_w l D H.size sk a t i1 q c1 d x2 hI ) (cwV 1 hts gm_X2_noteBodies_w_X2_note_w_63 rfl rfl rfl (by decide +kernel) ⟨Nat.le_of_ble_eq_true rfl, Nat.le_of_ble_eq_true rfl⟩) (yB_V hN (xZ_k hZ hS hA) (xZ_n hZ hD) hK hP hD (ci := 2) (q0 := 31) rfl rfl) rfl rfl hl.1 rfl (lv_room (Nat.le_of_ble_eq_true rfl)) dX2_noteBodies_35 ⟨Nat.le_of_ble_eq_true rfl, Nat.le_of_ble_eq_true rfl⟩) hS hA hP hD (fun u3 H locs hv3 hP hD hS => ?_)
    obtain ⟨i3, q3, c3, d3⟩ := u3
    have hw3 : True ∧ xInv i3 c3 ∧ (∀ k, k ∉ ([140] : List Nat) → i3 k = i1 k) ∧ (∀ k, k ∉ ([139] : List Nat) → c3 k = c1 k) ∧ (q = q3) ∧ (d = d3) := hv3
    clear hv3
    obtain ⟨hw3, hI, hei3, hec3, hq3_q, hq3_d⟩ := hw3
    subst hq3_q
    subst hq3_d
    have hfi : ∀ k, k ∉ ([140] : List Nat) → i3 k = i k := fr_z hfi hei3 (by decide +kernel) (by decide +kernel)
    have hfc : ∀ k, k ∉ ([139] : List Nat) → c3 k = c k := fr_z hfc hec3 (by decide +kernel) (by decide +kernel)
    exact rw_vret (i3, q, c3, d) hx hb hr hlocks hS (hK.sub (tys' := []) [] rfl) hP hD dX2_noteBodies_38 ⟨trivial, hI, fr_w hfi (by decide +kernel), fr_w hfc (by decide +kernel), rfl, rfl⟩
  have jn4 : (2 ≤ s1.toInt ∧ s1.toInt ≤ 5) → ∀ (H : Heap) (locs : List Loc) (ls : Array Slot), va_P D vwCl (xwT sk a t i q c d) H → va_D A (xwT sk a t i q c d) → va_S A s.heap H locs → lv_has ls 2 [(0, .ref (a 138)), (1, .int s1)] → W p l e (headSpec wm_X2_noteBodies_w ({ frames := 1, cells := 0, slots := 0, locals := 21 })).room s m ([.ref (a 138), .int s1] : List Value).toArray below meth cd H locs 0 0 (MQ below (va_Qv (fun (u : MS) => True ∧ xInv u.1 u.2.2.1 ∧ (∀ k, k ∉ ([140] : List Nat) → u.1 k = i k) ∧ (∀ k, k ∉ ([139] : List Nat) → u.2.2.1 k = c k) ∧ (q = u.2.1) ∧ (d = u.2.2.2)) (oC D A (fun u : MS => xwT sk a t u.1 u.2.1 u.2.2.1 u.2.2.2) (fun _ => [])) A) ([.ref (a 138), .int s1] : List Value).toArray s 0 0 A) (F0 m 20 ls []) := by
    intro hz4_0 H locs ls hP hD hS hl
    refine lv_aload_n hx hb dX2_noteBodies_20 rfl (lv_at hl 0 rfl) ?_
    refine va_gets hx hb hZ.1 hS hown (hts (.fieldLink RX2 60 "TalePlay$Bulks" "BODIES" "[I") (List.mem_cons_of_mem _ (List.mem_append_left _ (List.mem_of_getElem? (i := 0) rfl)))) (fun _ h9 => h9) dX2_noteBodies_21 ?_
    refine lv_iload_n hx hb dX2_noteBodies_24 rfl (lv_at hl 1 rfl) ?_
    refine va_ti (v := .int (bodV (s1 : Int32).toNatClampNeg)) hx hb hZ.2 hS (vp_in_iff.mpr (by have h9 : s1.toInt = s1.toInt := rfl; omega)) rfl dX2_noteBodies_25 ?_
    refine lv_topi (fun x5 ex5 => ?_)
    refine al_callv (va_runV (As := [.int x5]) (rest := []) ⟨hx, hb, hml, hown, hts⟩ (x_X2_note_w l D H.size sk a t i q c d x5 hI ) (cwV 1 hts gm_X2_noteBodies_w_X2_note_w_63 rfl rfl rfl (by decide +kernel) ⟨Nat.le_of_ble_eq_true rfl, Nat.le_of_ble_eq_true rfl⟩) (yB_V hN (xZ_k hZ hS hA) (xZ_n hZ hD) hK hP hD (ci := 2) (q0 := 31) rfl rfl) rfl rfl hl.1 rfl (lv_room (Nat.le_of_ble_eq_true rfl)) dX2_noteBodies_26 ⟨Nat.le_of_ble_eq_true rfl, Nat.le_of_ble_eq_true rfl⟩) hS hA hP hD (fun u6 H locs hv6 hP hD hS => ?_)
    obtain ⟨i6, q6, c6, d6⟩ := u6
    have hw6 : True ∧ xInv i6 c6 ∧ (∀ k, k ∉ ([140] : List Nat) → i6 k = i k) ∧ (∀ k, k ∉ ([139] : List Nat) → c6 k = c k) ∧ (q = q6) ∧ (d = d6) := hv6
    clear hv6
    obtain ⟨hw6, hI, hei6, hec6, hq6_q, hq6_d⟩ := hw6
    subst hq6_q
    subst hq6_d
    have hfi : ∀ k, k ∉ ([140] : List Nat) → i6 k = i k := fr_z hfi hei6 (by decide +kernel) (by decide +kernel)
    have hfc : ∀ k, k ∉ ([139] : List Nat) → c6 k = c k := fr_z hfc hec6 (by decide +kernel) (by decide +kernel)
    exact jn1 i6 c6   hI (fr_w hfi (by decide +kernel)) (fr_w hfc (by decide +kernel)) _ _ _ hP hD hS (lv_sub hl [0, 1] rfl)
  refine lv_icmp_eq (tgt := 20) hx hb dX2_noteBodies_2 (by decide +kernel) (fun c7 => ?_) (fun c7 => ?_)
  · have f7 := (ti_eq (a := s1.toInt) (b := 3) rfl (by decide +kernel)).mp c7
    exact jn4   (show 2 ≤ s1.toInt ∧ s1.toInt ≤ 5 from by omega) _ _ _ hP hD hS (lv_sub hl [0, 1] rfl)
  · have f7 := mt (ti_eq (a := s1.toInt) (b := 3) rfl (by decide +kernel)).mpr c7
    refine lv_iload_n hx hb dX2_noteBodies_5 rfl (lv_at hl 1 rfl) ?_
    refine lv_iconst (v := 4) hx hb dX2_noteBodies_6 (by decide +kernel) ?_
    refine lv_icmp_eq (tgt := 20) hx hb dX2_noteBodies_7 (by decide +kernel) (fun c8 => ?_) (fun c8 => ?_)
    · have f8 := (ti_eq (a := s1.toInt) (b := 4) rfl (by decide +kernel)).mp c8
      exact jn4   (show 2 ≤ s1.toInt ∧ s1.toInt ≤ 5 from by omega) _ _ _ hP hD hS (lv_sub hl [0, 1] rfl)
    · have f8 := mt (ti_eq (a := s1.toInt) (b := 4) rfl (by decide +kernel)).mpr c8
      refine lv_iload_n hx hb dX2_noteBodies_10 rfl (lv_at hl 1 rfl) ?_
      refine lv_iconst (v := 2) hx hb dX2_noteBodies_11 (by decide +kernel) ?_
      refine lv_icmp_eq (tgt := 20) hx hb dX2_noteBodies_12 (by decide +kernel) (fun c9 => ?_) (fun c9 => ?_)
      · have f9 := (ti_eq (a := s1.toInt) (b := 2) rfl (by decide +kernel)).mp c9
        exact jn4   (show 2 ≤ s1.toInt ∧ s1.toInt ≤ 5 from by omega) _ _ _ hP hD hS (lv_sub hl [0, 1] rfl)
      · have f9 := mt (ti_eq (a := s1.toInt) (b := 2) rfl (by decide +kernel)).mpr c9
        refine lv_iload_n hx hb dX2_noteBodies_15 rfl (lv_at hl 1 rfl) ?_
        refine lv_iconst (v := 5) hx hb dX2_noteBodies_16 (by decide +kernel) ?_
        refine lv_icmp_ne (tgt := 29) hx hb dX2_noteBodies_17 (by decide +kernel) (fun c10 => ?_) (fun c10 => ?_)
        · have f10 := mt (ti_eq (a := s1.toInt) (b := 5) rfl (by decide +kernel)).mpr c10
          exact jn1 i c   hI (fr_w hfi (by decide +kernel)) (fr_w hfc (by decide +kernel)) _ _ _ hP hD hS (lv_sub hl [0, 1] rfl)
        · have f10 := (ti_eq (a := s1.toInt) (b := 5) rfl (by decide +kernel)).mp c10
          exact jn4   (show 2 ≤ s1.toInt ∧ s1.toInt ≤ 5 from by omega) _ _ _ hP hD hS (lv_sub hl [0, 1] rfl)

def wm_X2_clearTrace : List Cond := .code yX2_clearTrace cX2_clearTrace 1 none :: (([.fieldLink RX2 19 "TalePlay$Bulks" "traced" "I"] : List Cond) ++ wsX20)
set_option maxHeartbeats 4000000 in
set_option maxRecDepth 100000 in
theorem x_X2_clearTrace (l : Launch) (D : va_G) (sz : Nat) (sk : Value) (a : Nat → Nat) (t : Nat → ClassId) (i : Nat → Int32) (q : Int64) (c : Nat → Nat → Int32) (d : Nat → Nat → Int64) (hI : xInv i c) : Met l yX2_clearTrace wm_X2_clearTrace ({ frames := 0, cells := 0, slots := 0, locals := 0 }) (va_Pc [.ref (a 138)] (yB (a 186) D sz (xwT sk a t i q c d) (xtT t))) (va_Qv (fun (u : MS) => True ∧ xInv u.1 u.2.2.1 ∧ (∀ k, k ∉ ([140] : List Nat) → u.1 k = i k) ∧ (∀ k, k ∉ ([] : List Nat) → u.2.2.1 k = c k) ∧ (q = u.2.1) ∧ (d = u.2.2.2)) (oC D (va_A (xwT sk a t i q c d) sz) (fun u : MS => xwT sk a t u.1 u.2.1 u.2.2.1 u.2.2.2) (fun _ => [])) (va_A (xwT sk a t i q c d) sz)) 0 0 (va_A (xwT sk a t i q c d) sz) := by
  refine Met.ofW (cc := cX2_clearTrace) (maxL := 1) (ret := none) (by decide +kernel) rfl ?_
  intro p e s m args below meth cd s₁ B hml hv
  obtain ⟨rfl, ⟨hsz, hP, hK, hD0⟩, hN, hZ, hBW⟩ := hv
  have hx := B.exec
  have hb := B.bytes
  have hr := B.returns
  have hts := atoms_spec (ws := wm_X2_clearTrace) B.pre
  have hown : s.vm.findClass RX2 = some m.cls := findClass_of_methodNamed B.named
  have hlocks := B.notSynchronized
  subst hsz
  have hD := hD0.self (sz := s.heap.size)
  have hZ := xZ_A hZ hP hBW
  generalize hAe : va_A (xwT sk a t i q c d) s.heap.size = A at hD hZ ⊢
  have hA : ∀ q : Nat, s.heap.size ≤ q → A q := fun q h => by rw [← hAe]; exact Or.inr h
  have hS : va_S A s.heap s.heap [] := va_S.rf
  have hfi : ∀ k, k ∉ ([] : List Nat) → i k = i k := fun _ _ => rfl
  have hfc : ∀ k, k ∉ ([] : List Nat) → c k = c k := fun _ _ => rfl
  have hl := lv_entry ([.ref (a 138)]) (n := 1) (Nat.le_of_ble_eq_true rfl)
  rw [lg_entry_eq]
  generalize (lg_sl ([.ref (a 138)]) ++ List.replicate (1 - (lg_sl ([.ref (a 138)])).length) Slot.unset).toArray = ls at hl ⊢
  have hl : lv_has ls 1 [(0, .ref (a 138))] := hl
  refine lv_aload_n hx hb dX2_clearTrace_0 rfl (lv_at hl 0 rfl) ?_
  refine lv_iconst (v := 0) hx hb dX2_clearTrace_1 (by decide +kernel) ?_
  refine xpT_K_traced hx hb hts (fun _ h => List.mem_cons_of_mem _ (List.mem_append_right _ h)) hown hK hP hD hS (hts (.fieldLink RX2 19 "TalePlay$Bulks" "traced" "I") (List.mem_cons_of_mem _ (List.mem_append_left _ (List.mem_of_getElem? (i := 0) rfl)))) rfl rfl dX2_clearTrace_2 (fun H locs hP hD hS => ?_)
  have hI := xInv_i hI (k := 140) (v := 0) (show 0 ≤ (0 : Int32).toInt ∧ (0 : Int32).toInt ≤ 100 from by have h9 : (0 : Int32).toInt = 0 := (by decide +kernel); omega)
  have hfi : ∀ k, k ∉ ([140] : List Nat) → (upd i 140 0) k = i k := fr_iz hfi (by decide +kernel) (by decide +kernel)
  exact rw_vret ((upd i 140 0), q, c, d) hx hb hr hlocks hS (hK.sub (tys' := []) [] rfl) hP hD dX2_clearTrace_5 ⟨trivial, hI, fr_w hfi (by decide +kernel), fr_w hfc (by decide +kernel), rfl, rfl⟩

def wm_X2_weighBy_S : List Cond := .code yX2_weighBy cX2_weighBy 6 (some .int) :: ((([.fieldLink RX2 15 "TalePlay$Bulks" "world" "LTalePlay$World;", .methodLink RX2 42 yX10_sortOf, .instanceMethod yX10_sortOf, .selects RX10 yX10_sortOf yX10_sortOf, .initialized RX10, .code yX10_sortOf cX10_sortOf 2 (some .int), .fieldLink RX10 37 "TalePlay$World" "objects" "I", .fieldLink RX10 15 "TalePlay$World" "sorts" "[I", .fieldLink RX10 21 "TalePlay$World" "kindOf" "[I", .methodLink RX2 45 yX2_noteBodies, .instanceMethod yX2_noteBodies, .selects RX2 yX2_noteBodies yX2_noteBodies, .initialized RX2, .code yX2_noteBodies cX2_noteBodies 2 none, .fieldLink RX2 60 "TalePlay$Bulks" "BODIES" "[I", .methodLink RX2 63 yX2_note] : List Cond) ++ (([.instanceMethod yX2_note, .selects RX2 yX2_note yX2_note, .code yX2_note cX2_note 2 none, .fieldLink RX2 27 "TalePlay$Bulks" "tracing" "Z", .fieldLink RX2 49 "TalePlay$World" "sizeOf" "[I", .methodLink RX2 52 yX2_weighThose, .instanceMethod yX2_weighThose, .selects RX2 yX2_weighThose yX2_weighThose, .code yX2_weighThose cX2_weighThose 7 (some .int), .fieldLink RX2 31 "TalePlay$World" "objects" "I", .methodLink RX2 56 yX6_lies, .instanceMethod yX6_lies, .selects RX6 yX6_lies yX6_lies, .initialized RX6, .code yX6_lies cX6_lies 4 (some .boolean), .fieldLink RX6 9 "TalePlay$Scene" "cells" "[I"] : List Cond) ++ ([.methodLink RX2 23 yX2_weighBy, .instanceMethod yX2_weighBy, .selects RX2 yX2_weighBy yX2_weighBy, .code yX2_weighBy cX2_weighBy 6 (some .int)] : List Cond))) ++ wsX20 ++ wsX100 ++ wsX60)
def wm_X2_weighThose_S : List Cond := .code yX2_weighThose cX2_weighThose 7 (some .int) :: ((([.fieldLink RX2 15 "TalePlay$Bulks" "world" "LTalePlay$World;", .fieldLink RX2 31 "TalePlay$World" "objects" "I", .methodLink RX2 56 yX6_lies, .instanceMethod yX6_lies, .selects RX6 yX6_lies yX6_lies, .initialized RX6, .code yX6_lies cX6_lies 4 (some .boolean), .fieldLink RX6 9 "TalePlay$Scene" "cells" "[I", .methodLink RX2 23 yX2_weighBy, .instanceMethod yX2_weighBy, .selects RX2 yX2_weighBy yX2_weighBy, .initialized RX2, .code yX2_weighBy cX2_weighBy 6 (some .int), .methodLink RX2 42 yX10_sortOf, .instanceMethod yX10_sortOf, .selects RX10 yX10_sortOf yX10_sortOf] : List Cond) ++ (([.initialized RX10, .code yX10_sortOf cX10_sortOf 2 (some .int), .fieldLink RX10 37 "TalePlay$World" "objects" "I", .fieldLink RX10 15 "TalePlay$World" "sorts" "[I", .fieldLink RX10 21 "TalePlay$World" "kindOf" "[I", .methodLink RX2 45 yX2_noteBodies, .instanceMethod yX2_noteBodies, .selects RX2 yX2_noteBodies yX2_noteBodies, .code yX2_noteBodies cX2_noteBodies 2 none, .fieldLink RX2 60 "TalePlay$Bulks" "BODIES" "[I", .methodLink RX2 63 yX2_note, .instanceMethod yX2_note, .selects RX2 yX2_note yX2_note, .code yX2_note cX2_note 2 none, .fieldLink RX2 27 "TalePlay$Bulks" "tracing" "Z", .fieldLink RX2 49 "TalePlay$World" "sizeOf" "[I"] : List Cond) ++ ([.methodLink RX2 52 yX2_weighThose, .instanceMethod yX2_weighThose, .selects RX2 yX2_weighThose yX2_weighThose, .code yX2_weighThose cX2_weighThose 7 (some .int)] : List Cond))) ++ wsX20 ++ wsX100 ++ wsX60)
set_option maxRecDepth 20000 in
theorem gm_X2_weighThose_S_X6_lies_SS_56 : GoodIn wm_X2_weighThose_S (wsV RX2 56 RX6 yX6_lies wm_X6_lies_SS) := goodIn_w (List.forall_mem_append.mpr ⟨List.forall_mem_cons.mpr ⟨List.mem_cons_of_mem _ (List.mem_append_left _ (List.mem_append_left _ (List.mem_append_left _ (List.mem_append_left _ (List.mem_of_getElem? (i := 2) rfl))))), List.forall_mem_cons.mpr ⟨List.mem_cons_of_mem _ (List.mem_append_left _ (List.mem_append_left _ (List.mem_append_left _ (List.mem_append_left _ (List.mem_of_getElem? (i := 3) rfl))))), List.forall_mem_cons.mpr ⟨List.mem_cons_of_mem _ (List.mem_append_left _ (List.mem_append_left _ (List.mem_append_left _ (List.mem_append_left _ (List.mem_of_getElem? (i := 4) rfl))))), List.forall_mem_cons.mpr ⟨List.mem_cons_of_mem _ (List.mem_append_left _ (List.mem_append_left _ (List.mem_append_left _ (List.mem_append_left _ (List.mem_of_getElem? (i := 5) rfl))))), (fun _ h => absurd h List.not_mem_nil)⟩⟩⟩⟩, List.forall_mem_cons.mpr ⟨List.mem_cons_of_mem _ (List.mem_append_left _ (List.mem_append_left _ (List.mem_append_left _ (List.mem_append_left _ (List.mem_of_getElem? (i := 6) rfl))))), List.forall_mem_append.mpr ⟨List.forall_mem_cons.mpr ⟨List.mem_cons_of_mem _ (List.mem_append_left _ (List.mem_append_left _ (List.mem_append_left _ (List.mem_append_left _ (List.mem_of_getElem? (i := 7) rfl))))), (fun _ h => absurd h List.not_mem_nil)⟩, (fun _ h => List.mem_cons_of_mem _ (List.mem_append_right _ h))⟩⟩⟩) (by decide +kernel)
set_option maxRecDepth 20000 in
theorem gm_X2_weighThose_S_X2_weighBy_S_23 : GoodIn wm_X2_weighThose_S (wsV RX2 23 RX2 yX2_weighBy wm_X2_weighBy_S) := goodIn_w (List.forall_mem_append.mpr ⟨List.forall_mem_cons.mpr ⟨List.mem_cons_of_mem _ (List.mem_append_left _ (List.mem_append_left _ (List.mem_append_left _ (List.mem_append_left _ (List.mem_of_getElem? (i := 8) rfl))))), List.forall_mem_cons.mpr ⟨List.mem_cons_of_mem _ (List.mem_append_left _ (List.mem_append_left _ (List.mem_append_left _ (List.mem_append_left _ (List.mem_of_getElem? (i := 9) rfl))))), List.forall_mem_cons.mpr ⟨List.mem_cons_of_mem _ (List.mem_append_left _ (List.mem_append_left _ (List.mem_append_left _ (List.mem_append_left _ (List.mem_of_getElem? (i := 10) rfl))))), List.forall_mem_cons.mpr ⟨List.mem_cons_of_mem _ (List.mem_append_left _ (List.mem_append_left _ (List.mem_append_left _ (List.mem_append_left _ (List.mem_of_getElem? (i := 11) rfl))))), (fun _ h => absurd h List.not_mem_nil)⟩⟩⟩⟩, List.forall_mem_cons.mpr ⟨List.mem_cons_of_mem _ (List.mem_append_left _ (List.mem_append_left _ (List.mem_append_left _ (List.mem_append_left _ (List.mem_of_getElem? (i := 12) rfl))))), List.forall_mem_append.mpr ⟨List.forall_mem_append.mpr ⟨List.forall_mem_append.mpr ⟨List.forall_mem_append.mpr ⟨List.forall_mem_cons.mpr ⟨List.mem_cons_of_mem _ (List.mem_append_left _ (List.mem_append_left _ (List.mem_append_left _ (List.mem_append_left _ (List.mem_of_getElem? (i := 0) rfl))))), List.forall_mem_cons.mpr ⟨List.mem_cons_of_mem _ (List.mem_append_left _ (List.mem_append_left _ (List.mem_append_left _ (List.mem_append_left _ (List.mem_of_getElem? (i := 13) rfl))))), List.forall_mem_cons.mpr ⟨List.mem_cons_of_mem _ (List.mem_append_left _ (List.mem_append_left _ (List.mem_append_left _ (List.mem_append_left _ (List.mem_of_getElem? (i := 14) rfl))))), List.forall_mem_cons.mpr ⟨List.mem_cons_of_mem _ (List.mem_append_left _ (List.mem_append_left _ (List.mem_append_left _ (List.mem_append_left _ (List.mem_of_getElem? (i := 15) rfl))))), List.forall_mem_cons.mpr ⟨List.mem_cons_of_mem _ (List.mem_append_left _ (List.mem_append_left _ (List.mem_append_left _ (List.mem_append_right _ (List.mem_append_left _ (List.mem_of_getElem? (i := 0) rfl)))))), List.forall_mem_cons.mpr ⟨List.mem_cons_of_mem _ (List.mem_append_left _ (List.mem_append_left _ (List.mem_append_left _ (List.mem_append_right _ (List.mem_append_left _ (List.mem_of_getElem? (i := 1) rfl)))))), List.forall_mem_cons.mpr ⟨List.mem_cons_of_mem _ (List.mem_append_left _ (List.mem_append_left _ (List.mem_append_left _ (List.mem_append_right _ (List.mem_append_left _ (List.mem_of_getElem? (i := 2) rfl)))))), List.forall_mem_cons.mpr ⟨List.mem_cons_of_mem _ (List.mem_append_left _ (List.mem_append_left _ (List.mem_append_left _ (List.mem_append_right _ (List.mem_append_left _ (List.mem_of_getElem? (i := 3) rfl)))))), List.forall_mem_cons.mpr ⟨List.mem_cons_of_mem _ (List.mem_append_left _ (List.mem_append_left _ (List.mem_append_left _ (List.mem_append_right _ (List.mem_append_left _ (List.mem_of_getElem? (i := 4) rfl)))))), List.forall_mem_cons.mpr ⟨List.mem_cons_of_mem _ (List.mem_append_left _ (List.mem_append_left _ (List.mem_append_left _ (List.mem_append_right _ (List.mem_append_left _ (List.mem_of_getElem? (i := 5) rfl)))))), List.forall_mem_cons.mpr ⟨List.mem_cons_of_mem _ (List.mem_append_left _ (List.mem_append_left _ (List.mem_append_left _ (List.mem_append_right _ (List.mem_append_left _ (List.mem_of_getElem? (i := 6) rfl)))))), List.forall_mem_cons.mpr ⟨List.mem_cons_of_mem _ (List.mem_append_left _ (List.mem_append_left _ (List.mem_append_left _ (List.mem_append_right _ (List.mem_append_left _ (List.mem_of_getElem? (i := 7) rfl)))))), List.forall_mem_cons.mpr ⟨List.mem_cons_of_mem _ (List.mem_append_left _ (List.mem_append_left _ (List.mem_append_left _ (List.mem_append_left _ (List.mem_of_getElem? (i := 11) rfl))))), List.forall_mem_cons.mpr ⟨List.mem_cons_of_mem _ (List.mem_append_left _ (List.mem_append_left _ (List.mem_append_left _ (List.mem_append_right _ (List.mem_append_left _ (List.mem_of_getElem? (i := 8) rfl)))))), List.forall_mem_cons.mpr ⟨List.mem_cons_of_mem _ (List.mem_append_left _ (List.mem_append_left _ (List.mem_append_left _ (List.mem_append_right _ (List.mem_append_left _ (List.mem_of_getElem? (i := 9) rfl)))))), List.forall_mem_cons.mpr ⟨List.mem_cons_of_mem _ (List.mem_append_left _ (List.mem_append_left _ (List.mem_append_left _ (List.mem_append_right _ (List.mem_append_left _ (List.mem_of_getElem? (i := 10) rfl)))))), (fun _ h => absurd h List.not_mem_nil)⟩⟩⟩⟩⟩⟩⟩⟩⟩⟩⟩⟩⟩⟩⟩⟩, List.forall_mem_append.mpr ⟨List.forall_mem_cons.mpr ⟨List.mem_cons_of_mem _ (List.mem_append_left _ (List.mem_append_left _ (List.mem_append_left _ (List.mem_append_right _ (List.mem_append_left _ (List.mem_of_getElem? (i := 11) rfl)))))), List.forall_mem_cons.mpr ⟨List.mem_cons_of_mem _ (List.mem_append_left _ (List.mem_append_left _ (List.mem_append_left _ (List.mem_append_right _ (List.mem_append_left _ (List.mem_of_getElem? (i := 12) rfl)))))), List.forall_mem_cons.mpr ⟨List.mem_cons_of_mem _ (List.mem_append_left _ (List.mem_append_left _ (List.mem_append_left _ (List.mem_append_right _ (List.mem_append_left _ (List.mem_of_getElem? (i := 13) rfl)))))), List.forall_mem_cons.mpr ⟨List.mem_cons_of_mem _ (List.mem_append_left _ (List.mem_append_left _ (List.mem_append_left _ (List.mem_append_right _ (List.mem_append_left _ (List.mem_of_getElem? (i := 14) rfl)))))), List.forall_mem_cons.mpr ⟨List.mem_cons_of_mem _ (List.mem_append_left _ (List.mem_append_left _ (List.mem_append_left _ (List.mem_append_right _ (List.mem_append_left _ (List.mem_of_getElem? (i := 15) rfl)))))), List.forall_mem_cons.mpr ⟨List.mem_cons_of_mem _ (List.mem_append_left _ (List.mem_append_left _ (List.mem_append_left _ (List.mem_append_right _ (List.mem_append_right _ (List.mem_of_getElem? (i := 0) rfl)))))), List.forall_mem_cons.mpr ⟨List.mem_cons_of_mem _ (List.mem_append_left _ (List.mem_append_left _ (List.mem_append_left _ (List.mem_append_right _ (List.mem_append_right _ (List.mem_of_getElem? (i := 1) rfl)))))), List.forall_mem_cons.mpr ⟨List.mem_cons_of_mem _ (List.mem_append_left _ (List.mem_append_left _ (List.mem_append_left _ (List.mem_append_right _ (List.mem_append_right _ (List.mem_of_getElem? (i := 2) rfl)))))), List.forall_mem_cons.mpr ⟨List.mem_cons_self, List.forall_mem_cons.mpr ⟨List.mem_cons_of_mem _ (List.mem_append_left _ (List.mem_append_left _ (List.mem_append_left _ (List.mem_append_left _ (List.mem_of_getElem? (i := 1) rfl))))), List.forall_mem_cons.mpr ⟨List.mem_cons_of_mem _ (List.mem_append_left _ (List.mem_append_left _ (List.mem_append_left _ (List.mem_append_left _ (List.mem_of_getElem? (i := 2) rfl))))), List.forall_mem_cons.mpr ⟨List.mem_cons_of_mem _ (List.mem_append_left _ (List.mem_append_left _ (List.mem_append_left _ (List.mem_append_left _ (List.mem_of_getElem? (i := 3) rfl))))), List.forall_mem_cons.mpr ⟨List.mem_cons_of_mem _ (List.mem_append_left _ (List.mem_append_left _ (List.mem_append_left _ (List.mem_append_left _ (List.mem_of_getElem? (i := 4) rfl))))), List.forall_mem_cons.mpr ⟨List.mem_cons_of_mem _ (List.mem_append_left _ (List.mem_append_left _ (List.mem_append_left _ (List.mem_append_left _ (List.mem_of_getElem? (i := 5) rfl))))), List.forall_mem_cons.mpr ⟨List.mem_cons_of_mem _ (List.mem_append_left _ (List.mem_append_left _ (List.mem_append_left _ (List.mem_append_left _ (List.mem_of_getElem? (i := 6) rfl))))), List.forall_mem_cons.mpr ⟨List.mem_cons_of_mem _ (List.mem_append_left _ (List.mem_append_left _ (List.mem_append_left _ (List.mem_append_left _ (List.mem_of_getElem? (i := 7) rfl))))), (fun _ h => absurd h List.not_mem_nil)⟩⟩⟩⟩⟩⟩⟩⟩⟩⟩⟩⟩⟩⟩⟩⟩, List.forall_mem_cons.mpr ⟨List.mem_cons_of_mem _ (List.mem_append_left _ (List.mem_append_left _ (List.mem_append_left _ (List.mem_append_left _ (List.mem_of_getElem? (i := 8) rfl))))), List.forall_mem_cons.mpr ⟨List.mem_cons_of_mem _ (List.mem_append_left _ (List.mem_append_left _ (List.mem_append_left _ (List.mem_append_left _ (List.mem_of_getElem? (i := 9) rfl))))), List.forall_mem_cons.mpr ⟨List.mem_cons_of_mem _ (List.mem_append_left _ (List.mem_append_left _ (List.mem_append_left _ (List.mem_append_left _ (List.mem_of_getElem? (i := 10) rfl))))), List.forall_mem_cons.mpr ⟨List.mem_cons_of_mem _ (List.mem_append_left _ (List.mem_append_left _ (List.mem_append_left _ (List.mem_append_left _ (List.mem_of_getElem? (i := 12) rfl))))), (fun _ h => absurd h List.not_mem_nil)⟩⟩⟩⟩⟩⟩, (fun _ h => List.mem_cons_of_mem _ (List.mem_append_left _ (List.mem_append_left _ (List.mem_append_right _ h))))⟩, (fun _ h => List.mem_cons_of_mem _ (List.mem_append_left _ (List.mem_append_right _ h)))⟩, (fun _ h => List.mem_cons_of_mem _ (List.mem_append_right _ h))⟩⟩⟩) (by decide +kernel)
set_option maxHeartbeats 4000000 in
set_option maxRecDepth 100000 in
theorem x_X2_weighThose_S (l : Launch) (D : va_G) (mm : Nat) (IHy : ∀ (sz : Nat) (sk : Value) (a : Nat → Nat) (t : Nat → ClassId) (i : Nat → Int32) (q : Int64) (c : Nat → Nat → Int32) (d : Nat → Nat → Int64) (w : Int32) (e1 : Int32) (hI : xInv i c) (hw : 0 ≤ w.toInt ∧ w.toInt ≤ 29) (hdp : 31 - e1.toInt ≤ (mm : Int)) (he1 : 0 ≤ e1.toInt ∧ e1.toInt ≤ 31) (htr : (i 141).toInt = 0), Met l yX2_weighBy wm_X2_weighBy_S ({ frames := 2 * mm + 6, cells := 0, slots := 0, locals := 51 * mm + 200 }) (va_Pc [.ref (a 138), .ref (a 178), .int w, .int e1] (yA (a 186) D sz (xwBS sk a t i q c d) (xtBS t))) (va_Qi (fun (r : Int32) (_ : Unit) => True) oA (ro sz)) 0 0 (ro sz)) (sz : Nat) (sk : Value) (a : Nat → Nat) (t : Nat → ClassId) (i : Nat → Int32) (q : Int64) (c : Nat → Nat → Int32) (d : Nat → Nat → Int64) (f : Int32) (w : Int32) (e1 : Int32) (hI : xInv i c) (hdp : 30 - e1.toInt ≤ (mm : Int)) (he1 : 0 ≤ e1.toInt ∧ e1.toInt ≤ 30) (htr : (i 141).toInt = 0) : Met l yX2_weighThose wm_X2_weighThose_S ({ frames := 2 * mm + 7, cells := 0, slots := 0, locals := 51 * mm + 225 }) (va_Pc [.ref (a 138), .ref (a 178), .int f, .int w, .int e1] (yA (a 186) D sz (xwBS sk a t i q c d) (xtBS t))) (va_Qi (fun (r : Int32) (_ : Unit) => True) oA (ro sz)) 0 0 (ro sz) := by
  refine Met.ofW (cc := cX2_weighThose) (maxL := 7) (ret := (some .int)) (by decide +kernel) rfl ?_
  intro p e s m args below meth cd s₁ B hml hv
  obtain ⟨rfl, ⟨hsz, hP, hK⟩, hN, hZ⟩ := hv
  have hx := B.exec
  have hb := B.bytes
  have hr := B.returns
  have hts := atoms_spec (ws := wm_X2_weighThose_S) B.pre
  have hown : s.vm.findClass RX2 = some m.cls := findClass_of_methodNamed B.named
  have hlocks := B.notSynchronized
  subst hsz
  have hA : ∀ q : Nat, s.heap.size ≤ q → ro s.heap.size q := fun _ h => h
  have hS : va_S (ro s.heap.size) s.heap s.heap [] := va_S.rf
  have hl := lv_entry ([.ref (a 138), .ref (a 178), .int f, .int w, .int e1]) (n := 7) (Nat.le_of_ble_eq_true rfl)
  rw [lg_entry_eq]
  generalize (lg_sl ([.ref (a 138), .ref (a 178), .int f, .int w, .int e1]) ++ List.replicate (7 - (lg_sl ([.ref (a 138), .ref (a 178), .int f, .int w, .int e1])).length) Slot.unset).toArray = ls at hl ⊢
  have hl : lv_has ls 7 [(0, .ref (a 138)), (1, .ref (a 178)), (2, .int f), (3, .int w), (4, .int e1)] := hl
  refine lv_iconst (v := 0) hx hb dX2_weighThose_0 (by decide +kernel) ?_
  refine lv_istore (lv' := [(5, .int 0), (0, .ref (a 138)), (1, .ref (a 178)), (2, .int f), (3, .int w), (4, .int e1)]) hx hb dX2_weighThose_1 hl (by decide +kernel) rfl (fun ls hl => ?_)
  refine lv_iconst (v := 0) hx hb dX2_weighThose_3 (by decide +kernel) ?_
  refine lv_istore (lv' := [(6, .int 0), (5, .int 0), (0, .ref (a 138)), (1, .ref (a 178)), (2, .int f), (3, .int w), (4, .int e1)]) hx hb dX2_weighThose_4 hl (by decide +kernel) rfl (fun ls hl => ?_)
  have lp1 : ∀ (fu : Nat) (y1_6 : Int32) (y1_5 : Int32), (0 ≤ y1_6.toInt ∧ y1_6.toInt ≤ 30) → (30 - y1_6.toInt).toNat < fu → ∀ (H : Heap) (locs : List Loc) (ls : Array Slot), va_P D vwCl (xwBS sk a t i q c d) H → va_S (ro s.heap.size) s.heap H locs → lv_has ls 7 [(6, .int y1_6), (5, .int y1_5), (0, .ref (a 138)), (1, .ref (a 178)), (2, .int f), (3, .int w), (4, .int e1)] → W p l e (headSpec wm_X2_weighThose_S ({ frames := 2 * mm + 7, cells := 0, slots := 0, locals := 51 * mm + 225 })).room s m ([.ref (a 138), .ref (a 178), .int f, .int w, .int e1] : List Value).toArray below meth cd H locs 0 0 (MQ below (va_Qi (fun (r : Int32) (_ : Unit) => True) oA (ro s.heap.size)) ([.ref (a 138), .ref (a 178), .int f, .int w, .int e1] : List Value).toArray s 0 0 (ro s.heap.size)) (F0 m 6 ls []) := by
    intro fu
    induction fu with
    | zero => intro y1_6 y1_5 hy1_6 hm; exact absurd hm (Nat.not_lt_zero _)
    | succ fu ih =>
      intro y1_6 y1_5 hy1_6 hm H locs ls hP hS hl
      have ih1 := ih
      refine lv_iload hx hb dX2_weighThose_6 (lv_at hl 0 rfl) ?_
      refine lv_aload_n hx hb dX2_weighThose_8 rfl (lv_at hl 2 rfl) ?_
      refine xgBS_K_world hx hb hts (fun _ h => List.mem_cons_of_mem _ (List.mem_append_left _ (List.mem_append_left _ (List.mem_append_right _ h)))) hown hK hP (hts (.fieldLink RX2 15 "TalePlay$Bulks" "world" "LTalePlay$World;") (List.mem_cons_of_mem _ (List.mem_append_left _ (List.mem_append_left _ (List.mem_append_left _ (List.mem_append_left _ (List.mem_of_getElem? (i := 0) rfl))))))) dX2_weighThose_9 ?_
      refine xgBS_W_objects (v := (i 111)) rfl hx hb hts (fun _ h => List.mem_cons_of_mem _ (List.mem_append_left _ (List.mem_append_right _ h))) hown hK hP (hts (.fieldLink RX2 31 "TalePlay$World" "objects" "I") (List.mem_cons_of_mem _ (List.mem_append_left _ (List.mem_append_left _ (List.mem_append_left _ (List.mem_append_left _ (List.mem_of_getElem? (i := 1) rfl))))))) dX2_weighThose_12 ?_
      have rb111_i : 0 ≤ (i 111).toInt ∧ (i 111).toInt ≤ 30 := hI.1 111
      refine lv_icmp_ge (tgt := 51) hx hb dX2_weighThose_15 (by decide +kernel) (fun c2 => ?_) (fun c2 => ?_)
      · have f2 := (ti_le (a := (i 111).toInt) (b := y1_6.toInt) rfl rfl).mp c2
        refine lv_iload hx hb dX2_weighThose_51 (lv_at hl 1 rfl) ?_
        exact ro_iret hx hb hr hlocks hS dX2_weighThose_53 trivial
      · have f2 := mt (ti_le (a := (i 111).toInt) (b := y1_6.toInt) rfl rfl).mpr c2
        refine lv_aload_n hx hb dX2_weighThose_18 rfl (lv_at hl 3 rfl) ?_
        refine lv_iload hx hb dX2_weighThose_19 (lv_at hl 0 rfl) ?_
        refine lv_iload_n hx hb dX2_weighThose_21 rfl (lv_at hl 4 rfl) ?_
        refine lv_iload_n hx hb dX2_weighThose_22 rfl (lv_at hl 5 rfl) ?_
        refine ro_calli (va_runV (As := [.int y1_6, .int f, .int w]) (rest := []) ⟨hx, hb, hml, hown, hts⟩ (x_X6_lies_SS l D H.size .null a t i q c d y1_6 f w hI (show 0 ≤ y1_6.toInt ∧ y1_6.toInt ≤ 29 from by omega)) (cwV 3 hts gm_X2_weighThose_S_X6_lies_SS_56 rfl rfl rfl (by decide +kernel) ⟨show 0 + 1 ≤ 2 * mm + 7 from by omega, show 8 + (4 + 11) + (0) ≤ 51 * mm + 225 from by omega⟩) (yA_V hN (xZ_k hZ hS hA) (xkBS_P2 hK) (xuBS_P2 (sk := sk) hP) (ci := 6) (q0 := 0) rfl rfl) rfl rfl hl.1 rfl (lv_room (Nat.le_of_ble_eq_true rfl)) dX2_weighThose_23 ⟨Nat.le_of_ble_eq_true rfl, Nat.le_of_ble_eq_true rfl⟩) hS hA hP (fun r3 u3 H locs hw3 hP hS => ?_)
        have hw3 : (0 ≤ r3.toInt ∧ r3.toInt ≤ 1) := hw3
        have jn4 : ∀ (y4_5 : Int32), ∀ (H : Heap) (locs : List Loc) (ls : Array Slot), va_P D vwCl (xwBS sk a t i q c d) H → va_S (ro s.heap.size) s.heap H locs → lv_has ls 7 [(6, .int y1_6), (0, .ref (a 138)), (1, .ref (a 178)), (2, .int f), (3, .int w), (4, .int e1), (5, .int y4_5)] → W p l e (headSpec wm_X2_weighThose_S ({ frames := 2 * mm + 7, cells := 0, slots := 0, locals := 51 * mm + 225 })).room s m ([.ref (a 138), .ref (a 178), .int f, .int w, .int e1] : List Value).toArray below meth cd H locs 0 0 (MQ below (va_Qi (fun (r : Int32) (_ : Unit) => True) oA (ro s.heap.size)) ([.ref (a 138), .ref (a 178), .int f, .int w, .int e1] : List Value).toArray s 0 0 (ro s.heap.size)) (F0 m 45 ls []) := by
          intro y4_5 H locs ls hP hS hl
          obtain ⟨x5, ex5⟩ : ∃ y : Int32, y = y1_6 + 1 := ⟨_, rfl⟩
          have tx5 := ti_add (a := y1_6.toInt) (b := 1) ex5 rfl (by decide +kernel) (by omega) (by omega)
          refine lv_iinc (v := x5) (lv' := [(6, .int x5), (0, .ref (a 138)), (1, .ref (a 178)), (2, .int f), (3, .int w), (4, .int e1), (5, .int y4_5)]) hx hb dX2_weighThose_45 hl (k := 0) rfl (by rw [ex5]; rfl) (by decide +kernel) rfl (fun ls hl => ?_)
          refine lv_goto (tgt := 6) hx hb dX2_weighThose_48 (by decide +kernel) ?_
          exact ih1 x5 y4_5 (show 0 ≤ x5.toInt ∧ x5.toInt ≤ 30 from by have h50 : x5.toInt = (y1_6.toInt + 1) := tx5; omega) (by have h50 : x5.toInt = (y1_6.toInt + 1) := tx5; omega) _ _ _ hP hS (lv_sub hl [0, 6, 1, 2, 3, 4, 5] rfl)
        refine lv_if_eq (tgt := 45) hx hb dX2_weighThose_26 (by decide +kernel) (fun c6 => ?_) (fun c6 => ?_)
        · have f6 := (ti_eq (a := r3.toInt) (b := 0) rfl (by decide +kernel)).mp c6
          exact jn4 y1_5   _ _ _ hP hS (lv_sub hl [0, 2, 3, 4, 5, 6, 1] rfl)
        · have f6 := mt (ti_eq (a := r3.toInt) (b := 0) rfl (by decide +kernel)).mpr c6
          refine lv_iload hx hb dX2_weighThose_29 (lv_at hl 1 rfl) ?_
          refine lv_aload_n hx hb dX2_weighThose_31 rfl (lv_at hl 2 rfl) ?_
          refine lv_aload_n hx hb dX2_weighThose_32 rfl (lv_at hl 3 rfl) ?_
          refine lv_iload hx hb dX2_weighThose_33 (lv_at hl 0 rfl) ?_
          refine lv_iload hx hb dX2_weighThose_35 (lv_at hl 6 rfl) ?_
          refine lv_iconst (v := 1) hx hb dX2_weighThose_37 (by decide +kernel) ?_
          refine lv_iadd hx hb dX2_weighThose_38 ?_
          refine lv_topi (fun x7 ex7 => ?_)
          have tx7 := ti_add (a := e1.toInt) (b := 1) ex7 rfl (by decide +kernel) (by omega) (by omega)
          have rb141_i : 0 ≤ (i 141).toInt ∧ (i 141).toInt ≤ 1 := hI.1 141
          refine ro_calli (va_runV (As := [.ref (a 178), .int y1_6, .int x7]) (rest := [.int y1_5]) ⟨hx, hb, hml, hown, hts⟩ (IHy H.size .null a t i q c d y1_6 x7 hI (show 0 ≤ y1_6.toInt ∧ y1_6.toInt ≤ 29 from by have h91 : x7.toInt = (e1.toInt + 1) := tx7; omega) (show 31 - x7.toInt ≤ (mm : Int) from by have h91 : x7.toInt = (e1.toInt + 1) := tx7; omega) (show 0 ≤ x7.toInt ∧ x7.toInt ≤ 31 from by have h91 : x7.toInt = (e1.toInt + 1) := tx7; omega) (show ((i 141) : Int32).toInt = 0 from by have h91 : x7.toInt = (e1.toInt + 1) := tx7; omega)) (cwV 3 hts gm_X2_weighThose_S_X2_weighBy_S_23 rfl rfl rfl (by decide +kernel) ⟨show 2 * mm + 6 + 1 ≤ 2 * mm + 7 from by omega, show 8 + (6 + 11) + (51 * mm + 200) ≤ 51 * mm + 225 from by omega⟩) (yA_V hN (xZ_k hZ hS hA) hK hP (ci := 2) (q0 := 29) rfl rfl) rfl rfl hl.1 rfl (lv_room (Nat.le_of_ble_eq_true rfl)) dX2_weighThose_39 ⟨Nat.le_of_ble_eq_true rfl, Nat.le_of_ble_eq_true rfl⟩) hS hA hP (fun r8 u8 H locs hw8 hP hS => ?_)
          refine lv_iadd hx hb dX2_weighThose_42 ?_
          refine lv_topi (fun x9 ex9 => ?_)
          refine lv_istore (lv' := [(5, .int x9), (6, .int y1_6), (0, .ref (a 138)), (1, .ref (a 178)), (2, .int f), (3, .int w), (4, .int e1)]) hx hb dX2_weighThose_43 hl (by decide +kernel) rfl (fun ls hl => ?_)
          exact jn4 x9   _ _ _ hP hS (lv_sub hl [1, 2, 3, 4, 5, 6, 0] rfl)
  exact lp1 _ (0 : Int32) (0 : Int32) (show 0 ≤ (0 : Int32).toInt ∧ (0 : Int32).toInt ≤ 30 from by have h50 : (0 : Int32).toInt = 0 := (by decide +kernel); have h51 : (0 : Int32).toInt = 0 := (by decide +kernel); omega) (Nat.lt_succ_self _) _ _ _ hP hS (lv_sub hl [0, 1, 2, 3, 4, 5, 6] rfl)
set_option maxRecDepth 20000 in
theorem gm_X2_weighBy_S_X10_sortOf_42 : GoodIn wm_X2_weighBy_S (wsV RX2 42 RX10 yX10_sortOf wm_X10_sortOf) := goodIn_w (List.forall_mem_append.mpr ⟨List.forall_mem_cons.mpr ⟨List.mem_cons_of_mem _ (List.mem_append_left _ (List.mem_append_left _ (List.mem_append_left _ (List.mem_append_left _ (List.mem_of_getElem? (i := 1) rfl))))), List.forall_mem_cons.mpr ⟨List.mem_cons_of_mem _ (List.mem_append_left _ (List.mem_append_left _ (List.mem_append_left _ (List.mem_append_left _ (List.mem_of_getElem? (i := 2) rfl))))), List.forall_mem_cons.mpr ⟨List.mem_cons_of_mem _ (List.mem_append_left _ (List.mem_append_left _ (List.mem_append_left _ (List.mem_append_left _ (List.mem_of_getElem? (i := 3) rfl))))), List.forall_mem_cons.mpr ⟨List.mem_cons_of_mem _ (List.mem_append_left _ (List.mem_append_left _ (List.mem_append_left _ (List.mem_append_left _ (List.mem_of_getElem? (i := 4) rfl))))), (fun _ h => absurd h List.not_mem_nil)⟩⟩⟩⟩, List.forall_mem_cons.mpr ⟨List.mem_cons_of_mem _ (List.mem_append_left _ (List.mem_append_left _ (List.mem_append_left _ (List.mem_append_left _ (List.mem_of_getElem? (i := 5) rfl))))), List.forall_mem_append.mpr ⟨List.forall_mem_cons.mpr ⟨List.mem_cons_of_mem _ (List.mem_append_left _ (List.mem_append_left _ (List.mem_append_left _ (List.mem_append_left _ (List.mem_of_getElem? (i := 6) rfl))))), List.forall_mem_cons.mpr ⟨List.mem_cons_of_mem _ (List.mem_append_left _ (List.mem_append_left _ (List.mem_append_left _ (List.mem_append_left _ (List.mem_of_getElem? (i := 7) rfl))))), List.forall_mem_cons.mpr ⟨List.mem_cons_of_mem _ (List.mem_append_left _ (List.mem_append_left _ (List.mem_append_left _ (List.mem_append_left _ (List.mem_of_getElem? (i := 8) rfl))))), (fun _ h => absurd h List.not_mem_nil)⟩⟩⟩, (fun _ h => List.mem_cons_of_mem _ (List.mem_append_left _ (List.mem_append_right _ h)))⟩⟩⟩) (by decide +kernel)
set_option maxRecDepth 20000 in
theorem gm_X2_weighBy_S_X2_noteBodies_45 : GoodIn wm_X2_weighBy_S (wsV RX2 45 RX2 yX2_noteBodies wm_X2_noteBodies) := goodIn_w (List.forall_mem_append.mpr ⟨List.forall_mem_cons.mpr ⟨List.mem_cons_of_mem _ (List.mem_append_left _ (List.mem_append_left _ (List.mem_append_left _ (List.mem_append_left _ (List.mem_of_getElem? (i := 9) rfl))))), List.forall_mem_cons.mpr ⟨List.mem_cons_of_mem _ (List.mem_append_left _ (List.mem_append_left _ (List.mem_append_left _ (List.mem_append_left _ (List.mem_of_getElem? (i := 10) rfl))))), List.forall_mem_cons.mpr ⟨List.mem_cons_of_mem _ (List.mem_append_left _ (List.mem_append_left _ (List.mem_append_left _ (List.mem_append_left _ (List.mem_of_getElem? (i := 11) rfl))))), List.forall_mem_cons.mpr ⟨List.mem_cons_of_mem _ (List.mem_append_left _ (List.mem_append_left _ (List.mem_append_left _ (List.mem_append_left _ (List.mem_of_getElem? (i := 12) rfl))))), (fun _ h => absurd h List.not_mem_nil)⟩⟩⟩⟩, List.forall_mem_cons.mpr ⟨List.mem_cons_of_mem _ (List.mem_append_left _ (List.mem_append_left _ (List.mem_append_left _ (List.mem_append_left _ (List.mem_of_getElem? (i := 13) rfl))))), List.forall_mem_append.mpr ⟨List.forall_mem_cons.mpr ⟨List.mem_cons_of_mem _ (List.mem_append_left _ (List.mem_append_left _ (List.mem_append_left _ (List.mem_append_left _ (List.mem_of_getElem? (i := 14) rfl))))), List.forall_mem_cons.mpr ⟨List.mem_cons_of_mem _ (List.mem_append_left _ (List.mem_append_left _ (List.mem_append_left _ (List.mem_append_left _ (List.mem_of_getElem? (i := 15) rfl))))), List.forall_mem_cons.mpr ⟨List.mem_cons_of_mem _ (List.mem_append_left _ (List.mem_append_left _ (List.mem_append_left _ (List.mem_append_right _ (List.mem_append_left _ (List.mem_of_getElem? (i := 0) rfl)))))), List.forall_mem_cons.mpr ⟨List.mem_cons_of_mem _ (List.mem_append_left _ (List.mem_append_left _ (List.mem_append_left _ (List.mem_append_right _ (List.mem_append_left _ (List.mem_of_getElem? (i := 1) rfl)))))), List.forall_mem_cons.mpr ⟨List.mem_cons_of_mem _ (List.mem_append_left _ (List.mem_append_left _ (List.mem_append_left _ (List.mem_append_left _ (List.mem_of_getElem? (i := 12) rfl))))), List.forall_mem_cons.mpr ⟨List.mem_cons_of_mem _ (List.mem_append_left _ (List.mem_append_left _ (List.mem_append_left _ (List.mem_append_right _ (List.mem_append_left _ (List.mem_of_getElem? (i := 2) rfl)))))), List.forall_mem_cons.mpr ⟨List.mem_cons_of_mem _ (List.mem_append_left _ (List.mem_append_left _ (List.mem_append_left _ (List.mem_append_right _ (List.mem_append_left _ (List.mem_of_getElem? (i := 3) rfl)))))), (fun _ h => absurd h List.not_mem_nil)⟩⟩⟩⟩⟩⟩⟩, (fun _ h => List.mem_cons_of_mem _ (List.mem_append_left _ (List.mem_append_left _ (List.mem_append_right _ h))))⟩⟩⟩) (by decide +kernel)
set_option maxRecDepth 20000 in
theorem gm_X2_weighBy_S_X2_weighThose_S_52 : GoodIn wm_X2_weighBy_S (wsV RX2 52 RX2 yX2_weighThose wm_X2_weighThose_S) := goodIn_w (List.forall_mem_append.mpr ⟨List.forall_mem_cons.mpr ⟨List.mem_cons_of_mem _ (List.mem_append_left _ (List.mem_append_left _ (List.mem_append_left _ (List.mem_append_right _ (List.mem_append_left _ (List.mem_of_getElem? (i := 5) rfl)))))), List.forall_mem_cons.mpr ⟨List.mem_cons_of_mem _ (List.mem_append_left _ (List.mem_append_left _ (List.mem_append_left _ (List.mem_append_right _ (List.mem_append_left _ (List.mem_of_getElem? (i := 6) rfl)))))), List.forall_mem_cons.mpr ⟨List.mem_cons_of_mem _ (List.mem_append_left _ (List.mem_append_left _ (List.mem_append_left _ (List.mem_append_right _ (List.mem_append_left _ (List.mem_of_getElem? (i := 7) rfl)))))), List.forall_mem_cons.mpr ⟨List.mem_cons_of_mem _ (List.mem_append_left _ (List.mem_append_left _ (List.mem_append_left _ (List.mem_append_left _ (List.mem_of_getElem? (i := 12) rfl))))), (fun _ h => absurd h List.not_mem_nil)⟩⟩⟩⟩, List.forall_mem_cons.mpr ⟨List.mem_cons_of_mem _ (List.mem_append_left _ (List.mem_append_left _ (List.mem_append_left _ (List.mem_append_right _ (List.mem_append_left _ (List.mem_of_getElem? (i := 8) rfl)))))), List.forall_mem_append.mpr ⟨List.forall_mem_append.mpr ⟨List.forall_mem_append.mpr ⟨List.forall_mem_append.mpr ⟨List.forall_mem_cons.mpr ⟨List.mem_cons_of_mem _ (List.mem_append_left _ (List.mem_append_left _ (List.mem_append_left _ (List.mem_append_left _ (List.mem_of_getElem? (i := 0) rfl))))), List.forall_mem_cons.mpr ⟨List.mem_cons_of_mem _ (List.mem_append_left _ (List.mem_append_left _ (List.mem_append_left _ (List.mem_append_right _ (List.mem_append_left _ (List.mem_of_getElem? (i := 9) rfl)))))), List.forall_mem_cons.mpr ⟨List.mem_cons_of_mem _ (List.mem_append_left _ (List.mem_append_left _ (List.mem_append_left _ (List.mem_append_right _ (List.mem_append_left _ (List.mem_of_getElem? (i := 10) rfl)))))), List.forall_mem_cons.mpr ⟨List.mem_cons_of_mem _ (List.mem_append_left _ (List.mem_append_left _ (List.mem_append_left _ (List.mem_append_right _ (List.mem_append_left _ (List.mem_of_getElem? (i := 11) rfl)))))), List.forall_mem_cons.mpr ⟨List.mem_cons_of_mem _ (List.mem_append_left _ (List.mem_append_left _ (List.mem_append_left _ (List.mem_append_right _ (List.mem_append_left _ (List.mem_of_getElem? (i := 12) rfl)))))), List.forall_mem_cons.mpr ⟨List.mem_cons_of_mem _ (List.mem_append_left _ (List.mem_append_left _ (List.mem_append_left _ (List.mem_append_right _ (List.mem_append_left _ (List.mem_of_getElem? (i := 13) rfl)))))), List.forall_mem_cons.mpr ⟨List.mem_cons_of_mem _ (List.mem_append_left _ (List.mem_append_left _ (List.mem_append_left _ (List.mem_append_right _ (List.mem_append_left _ (List.mem_of_getElem? (i := 14) rfl)))))), List.forall_mem_cons.mpr ⟨List.mem_cons_of_mem _ (List.mem_append_left _ (List.mem_append_left _ (List.mem_append_left _ (List.mem_append_right _ (List.mem_append_left _ (List.mem_of_getElem? (i := 15) rfl)))))), List.forall_mem_cons.mpr ⟨List.mem_cons_of_mem _ (List.mem_append_left _ (List.mem_append_left _ (List.mem_append_left _ (List.mem_append_right _ (List.mem_append_right _ (List.mem_of_getElem? (i := 0) rfl)))))), List.forall_mem_cons.mpr ⟨List.mem_cons_of_mem _ (List.mem_append_left _ (List.mem_append_left _ (List.mem_append_left _ (List.mem_append_right _ (List.mem_append_right _ (List.mem_of_getElem? (i := 1) rfl)))))), List.forall_mem_cons.mpr ⟨List.mem_cons_of_mem _ (List.mem_append_left _ (List.mem_append_left _ (List.mem_append_left _ (List.mem_append_right _ (List.mem_append_right _ (List.mem_of_getElem? (i := 2) rfl)))))), List.forall_mem_cons.mpr ⟨List.mem_cons_of_mem _ (List.mem_append_left _ (List.mem_append_left _ (List.mem_append_left _ (List.mem_append_left _ (List.mem_of_getElem? (i := 12) rfl))))), List.forall_mem_cons.mpr ⟨List.mem_cons_self, List.forall_mem_cons.mpr ⟨List.mem_cons_of_mem _ (List.mem_append_left _ (List.mem_append_left _ (List.mem_append_left _ (List.mem_append_left _ (List.mem_of_getElem? (i := 1) rfl))))), List.forall_mem_cons.mpr ⟨List.mem_cons_of_mem _ (List.mem_append_left _ (List.mem_append_left _ (List.mem_append_left _ (List.mem_append_left _ (List.mem_of_getElem? (i := 2) rfl))))), List.forall_mem_cons.mpr ⟨List.mem_cons_of_mem _ (List.mem_append_left _ (List.mem_append_left _ (List.mem_append_left _ (List.mem_append_left _ (List.mem_of_getElem? (i := 3) rfl))))), (fun _ h => absurd h List.not_mem_nil)⟩⟩⟩⟩⟩⟩⟩⟩⟩⟩⟩⟩⟩⟩⟩⟩, List.forall_mem_append.mpr ⟨List.forall_mem_cons.mpr ⟨List.mem_cons_of_mem _ (List.mem_append_left _ (List.mem_append_left _ (List.mem_append_left _ (List.mem_append_left _ (List.mem_of_getElem? (i := 4) rfl))))), List.forall_mem_cons.mpr ⟨List.mem_cons_of_mem _ (List.mem_append_left _ (List.mem_append_left _ (List.mem_append_left _ (List.mem_append_left _ (List.mem_of_getElem? (i := 5) rfl))))), List.forall_mem_cons.mpr ⟨List.mem_cons_of_mem _ (List.mem_append_left _ (List.mem_append_left _ (List.mem_append_left _ (List.mem_append_left _ (List.mem_of_getElem? (i := 6) rfl))))), List.forall_mem_cons.mpr ⟨List.mem_cons_of_mem _ (List.mem_append_left _ (List.mem_append_left _ (List.mem_append_left _ (List.mem_append_left _ (List.mem_of_getElem? (i := 7) rfl))))), List.forall_mem_cons.mpr ⟨List.mem_cons_of_mem _ (List.mem_append_left _ (List.mem_append_left _ (List.mem_append_left _ (List.mem_append_left _ (List.mem_of_getElem? (i := 8) rfl))))), List.forall_mem_cons.mpr ⟨List.mem_cons_of_mem _ (List.mem_append_left _ (List.mem_append_left _ (List.mem_append_left _ (List.mem_append_left _ (List.mem_of_getElem? (i := 9) rfl))))), List.forall_mem_cons.mpr ⟨List.mem_cons_of_mem _ (List.mem_append_left _ (List.mem_append_left _ (List.mem_append_left _ (List.mem_append_left _ (List.mem_of_getElem? (i := 10) rfl))))), List.forall_mem_cons.mpr ⟨List.mem_cons_of_mem _ (List.mem_append_left _ (List.mem_append_left _ (List.mem_append_left _ (List.mem_append_left _ (List.mem_of_getElem? (i := 11) rfl))))), List.forall_mem_cons.mpr ⟨List.mem_cons_of_mem _ (List.mem_append_left _ (List.mem_append_left _ (List.mem_append_left _ (List.mem_append_left _ (List.mem_of_getElem? (i := 13) rfl))))), List.forall_mem_cons.mpr ⟨List.mem_cons_of_mem _ (List.mem_append_left _ (List.mem_append_left _ (List.mem_append_left _ (List.mem_append_left _ (List.mem_of_getElem? (i := 14) rfl))))), List.forall_mem_cons.mpr ⟨List.mem_cons_of_mem _ (List.mem_append_left _ (List.mem_append_left _ (List.mem_append_left _ (List.mem_append_left _ (List.mem_of_getElem? (i := 15) rfl))))), List.forall_mem_cons.mpr ⟨List.mem_cons_of_mem _ (List.mem_append_left _ (List.mem_append_left _ (List.mem_append_left _ (List.mem_append_right _ (List.mem_append_left _ (List.mem_of_getElem? (i := 0) rfl)))))), List.forall_mem_cons.mpr ⟨List.mem_cons_of_mem _ (List.mem_append_left _ (List.mem_append_left _ (List.mem_append_left _ (List.mem_append_right _ (List.mem_append_left _ (List.mem_of_getElem? (i := 1) rfl)))))), List.forall_mem_cons.mpr ⟨List.mem_cons_of_mem _ (List.mem_append_left _ (List.mem_append_left _ (List.mem_append_left _ (List.mem_append_right _ (List.mem_append_left _ (List.mem_of_getElem? (i := 2) rfl)))))), List.forall_mem_cons.mpr ⟨List.mem_cons_of_mem _ (List.mem_append_left _ (List.mem_append_left _ (List.mem_append_left _ (List.mem_append_right _ (List.mem_append_left _ (List.mem_of_getElem? (i := 3) rfl)))))), List.forall_mem_cons.mpr ⟨List.mem_cons_of_mem _ (List.mem_append_left _ (List.mem_append_left _ (List.mem_append_left _ (List.mem_append_right _ (List.mem_append_left _ (List.mem_of_getElem? (i := 4) rfl)))))), (fun _ h => absurd h List.not_mem_nil)⟩⟩⟩⟩⟩⟩⟩⟩⟩⟩⟩⟩⟩⟩⟩⟩, List.forall_mem_cons.mpr ⟨List.mem_cons_of_mem _ (List.mem_append_left _ (List.mem_append_left _ (List.mem_append_left _ (List.mem_append_right _ (List.mem_append_left _ (List.mem_of_getElem? (i := 5) rfl)))))), List.forall_mem_cons.mpr ⟨List.mem_cons_of_mem _ (List.mem_append_left _ (List.mem_append_left _ (List.mem_append_left _ (List.mem_append_right _ (List.mem_append_left _ (List.mem_of_getElem? (i := 6) rfl)))))), List.forall_mem_cons.mpr ⟨List.mem_cons_of_mem _ (List.mem_append_left _ (List.mem_append_left _ (List.mem_append_left _ (List.mem_append_right _ (List.mem_append_left _ (List.mem_of_getElem? (i := 7) rfl)))))), List.forall_mem_cons.mpr ⟨List.mem_cons_of_mem _ (List.mem_append_left _ (List.mem_append_left _ (List.mem_append_left _ (List.mem_append_right _ (List.mem_append_left _ (List.mem_of_getElem? (i := 8) rfl)))))), (fun _ h => absurd h List.not_mem_nil)⟩⟩⟩⟩⟩⟩, (fun _ h => List.mem_cons_of_mem _ (List.mem_append_left _ (List.mem_append_left _ (List.mem_append_right _ h))))⟩, (fun _ h => List.mem_cons_of_mem _ (List.mem_append_left _ (List.mem_append_right _ h)))⟩, (fun _ h => List.mem_cons_of_mem _ (List.mem_append_right _ h))⟩⟩⟩) (by decide +kernel)
set_option maxHeartbeats 4000000 in
set_option maxRecDepth 100000 in
theorem x_X2_weighBy_S (l : Launch) (D : va_G) : ∀ (mm : Nat) (sz : Nat) (sk : Value) (a : Nat → Nat) (t : Nat → ClassId) (i : Nat → Int32) (q : Int64) (c : Nat → Nat → Int32) (d : Nat → Nat → Int64) (w : Int32) (e1 : Int32) (hI : xInv i c) (hw : 0 ≤ w.toInt ∧ w.toInt ≤ 29) (hdp : 31 - e1.toInt ≤ (mm : Int)) (he1 : 0 ≤ e1.toInt ∧ e1.toInt ≤ 31) (htr : (i 141).toInt = 0), Met l yX2_weighBy wm_X2_weighBy_S ({ frames := 2 * mm + 6, cells := 0, slots := 0, locals := 51 * mm + 200 }) (va_Pc [.ref (a 138), .ref (a 178), .int w, .int e1] (yA (a 186) D sz (xwBS sk a t i q c d) (xtBS t))) (va_Qi (fun (r : Int32) (_ : Unit) => True) oA (ro sz)) 0 0 (ro sz) := by
  intro mm
  induction mm with
  | zero =>
    intro sz sk a t i q c d w e1 hI hw hdp he1 htr
    refine Met.ofW (cc := cX2_weighBy) (maxL := 6) (ret := (some .int)) (by decide +kernel) rfl ?_
    intro p e s m args below meth cd s₁ B hml hv
    obtain ⟨rfl, ⟨hsz, hP, hK⟩, hN, hZ⟩ := hv
    have hx := B.exec
    have hb := B.bytes
    have hr := B.returns
    have hts := atoms_spec (ws := wm_X2_weighBy_S) B.pre
    have hown : s.vm.findClass RX2 = some m.cls := findClass_of_methodNamed B.named
    have hlocks := B.notSynchronized
    subst hsz
    have hA : ∀ q : Nat, s.heap.size ≤ q → ro s.heap.size q := fun _ h => h
    have hS : va_S (ro s.heap.size) s.heap s.heap [] := va_S.rf
    have hl := lv_entry ([.ref (a 138), .ref (a 178), .int w, .int e1]) (n := 6) (Nat.le_of_ble_eq_true rfl)
    rw [lg_entry_eq]
    generalize (lg_sl ([.ref (a 138), .ref (a 178), .int w, .int e1]) ++ List.replicate (6 - (lg_sl ([.ref (a 138), .ref (a 178), .int w, .int e1])).length) Slot.unset).toArray = ls at hl ⊢
    have hl : lv_has ls 6 [(0, .ref (a 138)), (1, .ref (a 178)), (2, .int w), (3, .int e1)] := hl
    refine lv_iload_n hx hb dX2_weighBy_0 rfl (lv_at hl 3 rfl) ?_
    refine lv_bipush (v := 30) hx hb dX2_weighBy_1 (by decide +kernel) ?_
    refine lv_icmp_le (tgt := 8) hx hb dX2_weighBy_3 (by decide +kernel) (fun c1 => ?_) (fun c1 => ?_)
    · have f1 := (ti_le (a := e1.toInt) (b := 30) rfl (by decide +kernel)).mp c1
      exfalso; omega
    · have f1 := mt (ti_le (a := e1.toInt) (b := 30) rfl (by decide +kernel)).mpr c1
      refine lv_iconst (v := 0) hx hb dX2_weighBy_6 (by decide +kernel) ?_
      exact ro_iret hx hb hr hlocks hS dX2_weighBy_7 trivial
  | succ mm ih =>
    intro sz sk a t i q c d w e1 hI hw hdp he1 htr
    refine Met.ofW (cc := cX2_weighBy) (maxL := 6) (ret := (some .int)) (by decide +kernel) rfl ?_
    intro p e s m args below meth cd s₁ B hml hv
    obtain ⟨rfl, ⟨hsz, hP, hK⟩, hN, hZ⟩ := hv
    have hx := B.exec
    have hb := B.bytes
    have hr := B.returns
    have hts := atoms_spec (ws := wm_X2_weighBy_S) B.pre
    have hown : s.vm.findClass RX2 = some m.cls := findClass_of_methodNamed B.named
    have hlocks := B.notSynchronized
    subst hsz
    have hA : ∀ q : Nat, s.heap.size ≤ q → ro s.heap.size q := fun _ h => h
    have hS : va_S (ro s.heap.size) s.heap s.heap [] := va_S.rf
    have hl := lv_entry ([.ref (a 138), .ref (a 178), .int w, .int e1]) (n := 6) (Nat.le_of_ble_eq_true rfl)
    rw [lg_entry_eq]
    generalize (lg_sl ([.ref (a 138), .ref (a 178), .int w, .int e1]) ++ List.replicate (6 - (lg_sl ([.ref (a 138), .ref (a 178), .int w, .int e1])).length) Slot.unset).toArray = ls at hl ⊢
    have hl : lv_has ls 6 [(0, .ref (a 138)), (1, .ref (a 178)), (2, .int w), (3, .int e1)] := hl
    refine lv_iload_n hx hb dX2_weighBy_0 rfl (lv_at hl 3 rfl) ?_
    refine lv_bipush (v := 30) hx hb dX2_weighBy_1 (by decide +kernel) ?_
    refine lv_icmp_le (tgt := 8) hx hb dX2_weighBy_3 (by decide +kernel) (fun c1 => ?_) (fun c1 => ?_)
    · have f1 := (ti_le (a := e1.toInt) (b := 30) rfl (by decide +kernel)).mp c1
      refine lv_aload_n hx hb dX2_weighBy_8 rfl (lv_at hl 0 rfl) ?_
      refine xgBS_K_world hx hb hts (fun _ h => List.mem_cons_of_mem _ (List.mem_append_left _ (List.mem_append_left _ (List.mem_append_right _ h)))) hown hK hP (hts (.fieldLink RX2 15 "TalePlay$Bulks" "world" "LTalePlay$World;") (List.mem_cons_of_mem _ (List.mem_append_left _ (List.mem_append_left _ (List.mem_append_left _ (List.mem_append_left _ (List.mem_of_getElem? (i := 0) rfl))))))) dX2_weighBy_9 ?_
      refine lv_iload_n hx hb dX2_weighBy_12 rfl (lv_at hl 2 rfl) ?_
      have rb111_i : 0 ≤ (i 111).toInt ∧ (i 111).toInt ≤ 30 := hI.1 111
      refine ro_calli (va_runV (As := [.int w]) (rest := []) ⟨hx, hb, hml, hown, hts⟩ (x_X10_sortOf l D s.heap.size .null a t i q c d w hI ) (cwV 1 hts gm_X2_weighBy_S_X10_sortOf_42 rfl rfl rfl (by decide +kernel) ⟨show 0 + 1 ≤ 2 * (mm + 1) + 6 from by omega, show 8 + (2 + 11) + (0) ≤ 51 * (mm + 1) + 200 from by omega⟩) (yA_V hN (xZ_k hZ hS hA) (xkBS_W hK) (xuBS_W (sk := sk) hP) (ci := 10) (q0 := 0) rfl rfl) rfl rfl hl.1 rfl (lv_room (Nat.le_of_ble_eq_true rfl)) dX2_weighBy_13 ⟨Nat.le_of_ble_eq_true rfl, Nat.le_of_ble_eq_true rfl⟩) hS hA hP (fun r2 u2 H locs hw2 hP hS => ?_)
      have hw2 : ((r2.toInt = -9 ∧ ¬ (0 ≤ w.toInt ∧ w.toInt < (i 111).toInt)) ∨ (0 ≤ r2.toInt ∧ r2.toInt ≤ 5 ∧ 0 ≤ w.toInt ∧ w.toInt < (i 111).toInt)) := hw2
      refine lv_istore (lv' := [(4, .int r2), (0, .ref (a 138)), (1, .ref (a 178)), (2, .int w), (3, .int e1)]) hx hb dX2_weighBy_16 hl (by decide +kernel) rfl (fun ls hl => ?_)
      refine lv_aload_n hx hb dX2_weighBy_18 rfl (lv_at hl 1 rfl) ?_
      refine lv_iload hx hb dX2_weighBy_19 (lv_at hl 0 rfl) ?_
      have rb141_i : 0 ≤ (i 141).toInt ∧ (i 141).toInt ≤ 1 := hI.1 141
      refine ro_callv (va_runV (As := [.int r2]) (rest := []) ⟨hx, hb, hml, hown, hts⟩ (x_X2_noteBodies l D H.size .null a t i q c d r2 hI (show ((i 141) : Int32).toInt = 0 from by omega)) (cwV 1 hts gm_X2_weighBy_S_X2_noteBodies_45 rfl rfl rfl (by decide +kernel) ⟨show 1 + 1 ≤ 2 * (mm + 1) + 6 from by omega, show 8 + (2 + 11) + (21) ≤ 51 * (mm + 1) + 200 from by omega⟩) (yA_V hN (xZ_k hZ hS hA) (xkBS_B hK) (xuBS_B (sk := sk) hP) (ci := 2) (q0 := 29) rfl rfl) rfl rfl hl.1 rfl (lv_room (Nat.le_of_ble_eq_true rfl)) dX2_weighBy_21 ⟨Nat.le_of_ble_eq_true rfl, Nat.le_of_ble_eq_true rfl⟩) hS hA hP (fun u3 H locs hw3 hP hS => ?_)
      refine lv_aload_n hx hb dX2_weighBy_24 rfl (lv_at hl 1 rfl) ?_
      refine xgBS_K_world hx hb hts (fun _ h => List.mem_cons_of_mem _ (List.mem_append_left _ (List.mem_append_left _ (List.mem_append_right _ h)))) hown hK hP (hts (.fieldLink RX2 15 "TalePlay$Bulks" "world" "LTalePlay$World;") (List.mem_cons_of_mem _ (List.mem_append_left _ (List.mem_append_left _ (List.mem_append_left _ (List.mem_append_left _ (List.mem_of_getElem? (i := 0) rfl))))))) dX2_weighBy_25 ?_
      refine xgBS_W_sizeOf hx hb hts (fun _ h => List.mem_cons_of_mem _ (List.mem_append_left _ (List.mem_append_right _ h))) hown hK hP (hts (.fieldLink RX2 49 "TalePlay$World" "sizeOf" "[I") (List.mem_cons_of_mem _ (List.mem_append_left _ (List.mem_append_left _ (List.mem_append_left _ (List.mem_append_right _ (List.mem_append_left _ (List.mem_of_getElem? (i := 4) rfl)))))))) dX2_weighBy_28 ?_
      refine lv_iload_n hx hb dX2_weighBy_31 rfl (lv_at hl 3 rfl) ?_
      refine xlBS_109 hx hb hK hP (vp_in_iff.mpr (by have h9 : w.toInt = w.toInt := rfl; omega)) dX2_weighBy_32 (fun x4 ex4 => ?_)
      have rx4 : 0 ≤ x4.toInt ∧ x4.toInt ≤ 99 := by rw [ex4]; exact hI.2 109 _
      refine lv_istore (lv' := [(5, .int x4), (4, .int r2), (0, .ref (a 138)), (1, .ref (a 178)), (2, .int w), (3, .int e1)]) hx hb dX2_weighBy_33 hl (by decide +kernel) rfl (fun ls hl => ?_)
      refine lv_iload hx hb dX2_weighBy_35 (lv_at hl 1 rfl) ?_
      rcases (show (r2.toInt < 2 ∨ 5 < r2.toInt) ∨ r2.toInt = 2 ∨ r2.toInt = 3 ∨ r2.toInt = 4 ∨ r2.toInt = 5 by omega) with f5 | f5 | f5 | f5 | f5
      · refine lv_tableOut (tgt := 121) hx hb dX2_weighBy_37 f5 (by decide +kernel) ?_
        refine lv_iload hx hb dX2_weighBy_121 (lv_at hl 0 rfl) ?_
        exact ro_iret hx hb hr hlocks hS dX2_weighBy_123 trivial
      · refine lv_tableIn (off := 59) (tgt := 96) hx hb dX2_weighBy_37 (by omega) (by omega) (by rw [f5]; rfl) (by decide +kernel) ?_
        refine lv_iload hx hb dX2_weighBy_96 (lv_at hl 0 rfl) ?_
        refine lv_if_ne (tgt := 106) hx hb dX2_weighBy_98 (by decide +kernel) (fun c6 => ?_) (fun c6 => ?_)
        · have f6 := mt (ti_eq (a := x4.toInt) (b := 0) rfl (by decide +kernel)).mpr c6
          refine lv_bipush (v := 100) hx hb dX2_weighBy_106 (by decide +kernel) ?_
          refine lv_iload hx hb dX2_weighBy_108 (lv_at hl 0 rfl) ?_
          refine lv_idiv hx hb dX2_weighBy_110 (mt (ti_eq (a := x4.toInt) (b := 0) rfl (by decide +kernel)).mp (by omega)) ?_
          refine lv_topi (fun x7 ex7 => ?_)
          refine lv_goto (tgt := 123) hx hb dX2_weighBy_111 (by decide +kernel) ?_
          exact ro_iret hx hb hr hlocks hS dX2_weighBy_123 trivial
        · have f6 := (ti_eq (a := x4.toInt) (b := 0) rfl (by decide +kernel)).mp c6
          refine lv_bipush (v := (-9)) hx hb dX2_weighBy_101 (by decide +kernel) ?_
          refine lv_goto (tgt := 123) hx hb dX2_weighBy_103 (by decide +kernel) ?_
          exact ro_iret hx hb hr hlocks hS dX2_weighBy_123 trivial
      · refine lv_tableIn (off := 31) (tgt := 68) hx hb dX2_weighBy_37 (by omega) (by omega) (by rw [f5]; rfl) (by decide +kernel) ?_
        refine lv_iload hx hb dX2_weighBy_68 (lv_at hl 0 rfl) ?_
        refine lv_aload_n hx hb dX2_weighBy_70 rfl (lv_at hl 2 rfl) ?_
        refine lv_aload_n hx hb dX2_weighBy_71 rfl (lv_at hl 3 rfl) ?_
        refine lv_iconst (v := 0) hx hb dX2_weighBy_72 (by decide +kernel) ?_
        refine lv_iload_n hx hb dX2_weighBy_73 rfl (lv_at hl 4 rfl) ?_
        refine lv_iload_n hx hb dX2_weighBy_74 rfl (lv_at hl 5 rfl) ?_
        refine ro_calli (va_runV (As := [.ref (a 178), .int 0, .int w, .int e1]) (rest := [.int x4]) ⟨hx, hb, hml, hown, hts⟩ (x_X2_weighThose_S l D mm ih H.size .null a t i q c d 0 w e1 hI (show 30 - e1.toInt ≤ (mm : Int) from by have h90 : (0 : Int32).toInt = 0 := (by decide +kernel); omega) (show 0 ≤ e1.toInt ∧ e1.toInt ≤ 30 from by have h90 : (0 : Int32).toInt = 0 := (by decide +kernel); omega) (show ((i 141) : Int32).toInt = 0 from by have h90 : (0 : Int32).toInt = 0 := (by decide +kernel); omega)) (cwV 4 hts gm_X2_weighBy_S_X2_weighThose_S_52 rfl rfl rfl (by decide +kernel) ⟨show 2 * mm + 7 + 1 ≤ 2 * (mm + 1) + 6 from by omega, show 8 + (7 + 11) + (51 * mm + 225) ≤ 51 * (mm + 1) + 200 from by omega⟩) (yA_V hN (xZ_k hZ hS hA) hK hP (ci := 2) (q0 := 29) rfl rfl) rfl rfl hl.1 rfl (lv_room (Nat.le_of_ble_eq_true rfl)) dX2_weighBy_75 ⟨Nat.le_of_ble_eq_true rfl, Nat.le_of_ble_eq_true rfl⟩) hS hA hP (fun r8 u8 H locs hw8 hP hS => ?_)
        refine lv_iadd hx hb dX2_weighBy_78 ?_
        refine lv_topi (fun x9 ex9 => ?_)
        refine lv_goto (tgt := 123) hx hb dX2_weighBy_79 (by decide +kernel) ?_
        exact ro_iret hx hb hr hlocks hS dX2_weighBy_123 trivial
      · refine lv_tableIn (off := 45) (tgt := 82) hx hb dX2_weighBy_37 (by omega) (by omega) (by rw [f5]; rfl) (by decide +kernel) ?_
        refine lv_iload hx hb dX2_weighBy_82 (lv_at hl 0 rfl) ?_
        refine lv_aload_n hx hb dX2_weighBy_84 rfl (lv_at hl 2 rfl) ?_
        refine lv_aload_n hx hb dX2_weighBy_85 rfl (lv_at hl 3 rfl) ?_
        refine lv_iconst (v := 1) hx hb dX2_weighBy_86 (by decide +kernel) ?_
        refine lv_iload_n hx hb dX2_weighBy_87 rfl (lv_at hl 4 rfl) ?_
        refine lv_iload_n hx hb dX2_weighBy_88 rfl (lv_at hl 5 rfl) ?_
        refine ro_calli (va_runV (As := [.ref (a 178), .int 1, .int w, .int e1]) (rest := [.int x4]) ⟨hx, hb, hml, hown, hts⟩ (x_X2_weighThose_S l D mm ih H.size .null a t i q c d 1 w e1 hI (show 30 - e1.toInt ≤ (mm : Int) from by have h90 : (1 : Int32).toInt = 1 := (by decide +kernel); omega) (show 0 ≤ e1.toInt ∧ e1.toInt ≤ 30 from by have h90 : (1 : Int32).toInt = 1 := (by decide +kernel); omega) (show ((i 141) : Int32).toInt = 0 from by have h90 : (1 : Int32).toInt = 1 := (by decide +kernel); omega)) (cwV 4 hts gm_X2_weighBy_S_X2_weighThose_S_52 rfl rfl rfl (by decide +kernel) ⟨show 2 * mm + 7 + 1 ≤ 2 * (mm + 1) + 6 from by omega, show 8 + (7 + 11) + (51 * mm + 225) ≤ 51 * (mm + 1) + 200 from by omega⟩) (yA_V hN (xZ_k hZ hS hA) hK hP (ci := 2) (q0 := 29) rfl rfl) rfl rfl hl.1 rfl (lv_room (Nat.le_of_ble_eq_true rfl)) dX2_weighBy_89 ⟨Nat.le_of_ble_eq_true rfl, Nat.le_of_ble_eq_true rfl⟩) hS hA hP (fun r10 u10 H locs hw10 hP hS => ?_)
        refine lv_iadd hx hb dX2_weighBy_92 ?_
        refine lv_topi (fun x11 ex11 => ?_)
        refine lv_goto (tgt := 123) hx hb dX2_weighBy_93 (by decide +kernel) ?_
        exact ro_iret hx hb hr hlocks hS dX2_weighBy_123 trivial
      · refine lv_tableIn (off := 77) (tgt := 114) hx hb dX2_weighBy_37 (by omega) (by omega) (by rw [f5]; rfl) (by decide +kernel) ?_
        refine lv_iconst (v := 2) hx hb dX2_weighBy_114 (by decide +kernel) ?_
        refine lv_iload hx hb dX2_weighBy_115 (lv_at hl 0 rfl) ?_
        refine lv_imul hx hb dX2_weighBy_117 ?_
        refine lv_topi (fun x12 ex12 => ?_)
        have tx12 := ti_mul (a := 2) (b := x4.toInt) ex12 (by decide +kernel) rfl (by omega) (by omega)
        refine lv_goto (tgt := 123) hx hb dX2_weighBy_118 (by decide +kernel) ?_
        exact ro_iret hx hb hr hlocks hS dX2_weighBy_123 trivial
    · have f1 := mt (ti_le (a := e1.toInt) (b := 30) rfl (by decide +kernel)).mpr c1
      refine lv_iconst (v := 0) hx hb dX2_weighBy_6 (by decide +kernel) ?_
      exact ro_iret hx hb hr hlocks hS dX2_weighBy_7 trivial
theorem x0_X2_weighBy_S (l : Launch) (D : va_G) (sz : Nat) (sk : Value) (a : Nat → Nat) (t : Nat → ClassId) (i : Nat → Int32) (q : Int64) (c : Nat → Nat → Int32) (d : Nat → Nat → Int64) (w : Int32) (e1 : Int32) (hI : xInv i c) (hw : 0 ≤ w.toInt ∧ w.toInt ≤ 29) (he1 : e1.toInt = 0) (htr : (i 141).toInt = 0) : Met l yX2_weighBy wm_X2_weighBy_S ({ frames := 68, cells := 0, slots := 0, locals := 1781 }) (va_Pc [.ref (a 138), .ref (a 178), .int w, .int e1] (yA (a 186) D sz (xwBS sk a t i q c d) (xtBS t))) (va_Qi (fun (r : Int32) (_ : Unit) => True) oA (ro sz)) 0 0 (ro sz) := x_X2_weighBy_S l D 31 sz sk a t i q c d w e1 hI hw (by omega) (by omega) htr
theorem x0_X2_weighThose_S (l : Launch) (D : va_G) (sz : Nat) (sk : Value) (a : Nat → Nat) (t : Nat → ClassId) (i : Nat → Int32) (q : Int64) (c : Nat → Nat → Int32) (d : Nat → Nat → Int64) (f : Int32) (w : Int32) (e1 : Int32) (hI : xInv i c) (he1 : e1.toInt = 0) (htr : (i 141).toInt = 0) : Met l yX2_weighThose wm_X2_weighThose_S ({ frames := 67, cells := 0, slots := 0, locals := 1755 }) (va_Pc [.ref (a 138), .ref (a 178), .int f, .int w, .int e1] (yA (a 186) D sz (xwBS sk a t i q c d) (xtBS t))) (va_Qi (fun (r : Int32) (_ : Unit) => True) oA (ro sz)) 0 0 (ro sz) := x_X2_weighThose_S l D 30 (x_X2_weighBy_S l D 30) sz sk a t i q c d f w e1 hI (by omega) (by omega) htr
