def wm_X2_note_eN : List Cond := .code yX2_note cX2_note 2 none :: (([.fieldLink RX2 27 "TalePlay$Bulks" "tracing" "Z", .fieldLink RX2 19 "TalePlay$Bulks" "traced" "I", .fieldLink RX2 9 "TalePlay$Bulks" "trace" "[I"] : List Cond) ++ wsX20)
set_option maxHeartbeats 4000000 in
set_option maxRecDepth 100000 in
theorem x_X2_note_eN (l : Launch) (D : va_G) (sz : Nat) (sk : Value) (a : Nat → Nat) (t : Nat → ClassId) (i : Nat → Int32) (q : Int64) (c : Nat → Nat → Int32) (d : Nat → Nat → Int64) (b1 : Int32) (hI : xInv i c) (ht1 : (i 141).toInt = 1) : Met l yX2_note wm_X2_note_eN ({ frames := 0, cells := 0, slots := 0, locals := 0 }) (va_Pc [.ref (a 138), .int b1] (yB (a 186) D sz (xwT sk a t i q c d) (xtT t))) (va_Qv (fun (u : MS) => True ∧ xInv u.1 u.2.2.1 ∧ (∀ k, k ∉ ([140] : List Nat) → u.1 k = i k) ∧ (∀ k, k ∉ ([139] : List Nat) → u.2.2.1 k = c k) ∧ (((u.1 140), (u.2.2.1 139)) = nb b1 ((i 140), (c 139)))) (oC D (va_A (xwT sk a t i q c d) sz) (fun u : MS => xwT sk a t u.1 u.2.1 u.2.2.1 u.2.2.2) (fun _ => [])) (va_A (xwT sk a t i q c d) sz)) 0 0 (va_A (xwT sk a t i q c d) sz) := by
  refine Met.ofW (cc := cX2_note) (maxL := 2) (ret := none) (by decide +kernel) rfl ?_
  intro p e s m args below meth cd s₁ B hml hv
  obtain ⟨rfl, ⟨hsz, hP, hK, hD0⟩, hN, hZ, hBW⟩ := hv
  have hx := B.exec
  have hb := B.bytes
  have hr := B.returns
  have hts := atoms_spec (ws := wm_X2_note_eN) B.pre
  have hown : s.vm.findClass RX2 = some m.cls := findClass_of_methodNamed B.named
  have hlocks := B.notSynchronized
  subst hsz
  have hD := hD0.self (sz := s.heap.size)
  have hZ := xZ_A hZ hP hBW
  generalize hAe : va_A (xwT sk a t i q c d) s.heap.size = A at hD hZ ⊢
  have hA : ∀ q : Nat, s.heap.size ≤ q → A q := fun q h => by rw [← hAe]; exact Or.inr h
  have hS : va_S A s.heap s.heap [] := va_S.rf
  have hfi : ∀ k, k ∉ ([] : List Nat) → i k = i k := fun _ _ => rfl
  have hfc : ∀ k, k ∉ ([] : List Nat) → c k = c k := fun _ _ => rfl
  have hl := lv_entry ([.ref (a 138), .int b1]) (n := 2) (Nat.le_of_ble_eq_true rfl)
  rw [lg_entry_eq]
  generalize (lg_sl ([.ref (a 138), .int b1]) ++ List.replicate (2 - (lg_sl ([.ref (a 138), .int b1])).length) Slot.unset).toArray = ls at hl ⊢
  have hl : lv_has ls 2 [(0, .ref (a 138)), (1, .int b1)] := hl
  refine lv_aload_n hx hb dX2_note_0 rfl (lv_at hl 0 rfl) ?_
  refine xgT_K_tracing (v := (i 141)) rfl hx hb hts (fun _ h => List.mem_cons_of_mem _ (List.mem_append_right _ h)) hown hK hP (hts (.fieldLink RX2 27 "TalePlay$Bulks" "tracing" "Z") (List.mem_cons_of_mem _ (List.mem_append_left _ (List.mem_of_getElem? (i := 0) rfl)))) dX2_note_1 ?_
  have rb141_i : 0 ≤ (i 141).toInt ∧ (i 141).toInt ≤ 1 := hI.1 141
  refine lv_if_eq (tgt := 33) hx hb dX2_note_4 (by decide +kernel) (fun c1 => ?_) (fun c1 => ?_)
  · have f1 := (ti_eq (a := (i 141).toInt) (b := 0) rfl (by decide +kernel)).mp c1
    exact rw_vret (i, q, c, d) hx hb hr hlocks hS (hK.sub (tys' := []) [] rfl) hP hD dX2_note_33 ⟨trivial, hI, fr_w hfi (by decide +kernel), fr_w hfc (by decide +kernel), (show (((i 140) : Int32), (c 139)) = nb b1 ((i 140), (c 139)) from by exfalso; omega)⟩
  · have f1 := mt (ti_eq (a := (i 141).toInt) (b := 0) rfl (by decide +kernel)).mpr c1
    refine lv_aload_n hx hb dX2_note_7 rfl (lv_at hl 0 rfl) ?_
    refine xgT_K_traced (v := (i 140)) rfl hx hb hts (fun _ h => List.mem_cons_of_mem _ (List.mem_append_right _ h)) hown hK hP (hts (.fieldLink RX2 19 "TalePlay$Bulks" "traced" "I") (List.mem_cons_of_mem _ (List.mem_append_left _ (List.mem_of_getElem? (i := 1) rfl)))) dX2_note_8 ?_
    have rb140_i : 0 ≤ (i 140).toInt ∧ (i 140).toInt ≤ 100 := hI.1 140
    refine lv_bipush (v := 100) hx hb dX2_note_11 (by decide +kernel) ?_
    refine lv_icmp_ge (tgt := 33) hx hb dX2_note_13 (by decide +kernel) (fun c2 => ?_) (fun c2 => ?_)
    · have f2 := (ti_le (a := 100) (b := (i 140).toInt) (by decide +kernel) rfl).mp c2
      exact rw_vret (i, q, c, d) hx hb hr hlocks hS (hK.sub (tys' := []) [] rfl) hP hD dX2_note_33 ⟨trivial, hI, fr_w hfi (by decide +kernel), fr_w hfc (by decide +kernel), (show (((i 140) : Int32), (c 139)) = nb b1 ((i 140), (c 139)) from (nb_z9 (by omega)).symm)⟩
    · have f2 := mt (ti_le (a := 100) (b := (i 140).toInt) (by decide +kernel) rfl).mpr c2
      refine lv_aload_n hx hb dX2_note_16 rfl (lv_at hl 0 rfl) ?_
      refine xgT_K_trace hx hb hts (fun _ h => List.mem_cons_of_mem _ (List.mem_append_right _ h)) hown hK hP (hts (.fieldLink RX2 9 "TalePlay$Bulks" "trace" "[I") (List.mem_cons_of_mem _ (List.mem_append_left _ (List.mem_of_getElem? (i := 2) rfl)))) dX2_note_17 ?_
      refine lv_aload_n hx hb dX2_note_20 rfl (lv_at hl 0 rfl) ?_
      refine lv_dup hx hb dX2_note_21 rfl ?_
      refine xgT_K_traced (v := (i 140)) rfl hx hb hts (fun _ h => List.mem_cons_of_mem _ (List.mem_append_right _ h)) hown hK hP (hts (.fieldLink RX2 19 "TalePlay$Bulks" "traced" "I") (List.mem_cons_of_mem _ (List.mem_append_left _ (List.mem_of_getElem? (i := 1) rfl)))) dX2_note_22 ?_
      refine lv_dup_x1 hx hb dX2_note_25 rfl rfl ?_
      refine lv_iconst (v := 1) hx hb dX2_note_26 (by decide +kernel) ?_
      refine lv_iadd hx hb dX2_note_27 ?_
      refine lv_topi (fun x3 ex3 => ?_)
      have tx3 := ti_add (a := (i 140).toInt) (b := 1) ex3 rfl (by decide +kernel) (by omega) (by omega)
      refine xpT_K_traced hx hb hts (fun _ h => List.mem_cons_of_mem _ (List.mem_append_right _ h)) hown hK hP hD hS (hts (.fieldLink RX2 19 "TalePlay$Bulks" "traced" "I") (List.mem_cons_of_mem _ (List.mem_append_left _ (List.mem_of_getElem? (i := 1) rfl)))) rfl rfl dX2_note_28 (fun H locs hP hD hS => ?_)
      have hI := xInv_i hI (k := 140) (v := x3) (show 0 ≤ (x3 : Int32).toInt ∧ (x3 : Int32).toInt ≤ 100 from by have h9 : x3.toInt = ((i 140).toInt + 1) := tx3; omega)
      have hfi : ∀ k, k ∉ ([140] : List Nat) → (upd i 140 x3) k = i k := fr_iz hfi (by decide +kernel) (by decide +kernel)
      refine lv_iload_n hx hb dX2_note_31 rfl (lv_at hl 1 rfl) ?_
      refine xsT_139 hx hb hK hP hD hS (vp_in_iff.mpr (by have h9 : (i 140).toInt = (i 140).toInt := rfl; omega)) dX2_note_32 (fun H locs hP hD hS => ?_)
      have hI := xInv_c hI (k := 139) (j := ((i 140) : Int32).toNatClampNeg) (x := b1) (show True from trivial)
      have hfc : ∀ k, k ∉ ([139] : List Nat) → (updA c 139 ((i 140) : Int32).toNatClampNeg b1) k = c k := fr_cz hfc (by decide +kernel) (by decide +kernel)
      exact rw_vret ((upd i 140 x3), q, (updA c 139 ((i 140) : Int32).toNatClampNeg b1), d) hx hb hr hlocks hS (hK.sub (tys' := []) [] rfl) hP hD dX2_note_33 ⟨trivial, hI, fr_w hfi (by decide +kernel), fr_w hfc (by decide +kernel), (show ((x3 : Int32), ((updA c 139 ((i 140) : Int32).toNatClampNeg b1) 139)) = nb b1 ((i 140), (c 139)) from by show ((x3 : Int32), upd (c 139) ((i 140) : Int32).toNatClampNeg b1) = _; rw [nb_y (by omega), ex3])⟩

def wm_X2_noteBodies_eN : List Cond := .code yX2_noteBodies cX2_noteBodies 2 none :: (([.fieldLink RX2 60 "TalePlay$Bulks" "BODIES" "[I", .methodLink RX2 63 yX2_note, .instanceMethod yX2_note, .selects RX2 yX2_note yX2_note, .initialized RX2, .code yX2_note cX2_note 2 none, .fieldLink RX2 27 "TalePlay$Bulks" "tracing" "Z", .fieldLink RX2 19 "TalePlay$Bulks" "traced" "I", .fieldLink RX2 9 "TalePlay$Bulks" "trace" "[I"] : List Cond) ++ wsX20)
set_option maxRecDepth 20000 in
theorem gm_X2_noteBodies_eN_X2_note_eN_63 : GoodIn wm_X2_noteBodies_eN (wsV RX2 63 RX2 yX2_note wm_X2_note_eN) := goodIn_w (List.forall_mem_append.mpr ⟨List.forall_mem_cons.mpr ⟨List.mem_cons_of_mem _ (List.mem_append_left _ (List.mem_of_getElem? (i := 1) rfl)), List.forall_mem_cons.mpr ⟨List.mem_cons_of_mem _ (List.mem_append_left _ (List.mem_of_getElem? (i := 2) rfl)), List.forall_mem_cons.mpr ⟨List.mem_cons_of_mem _ (List.mem_append_left _ (List.mem_of_getElem? (i := 3) rfl)), List.forall_mem_cons.mpr ⟨List.mem_cons_of_mem _ (List.mem_append_left _ (List.mem_of_getElem? (i := 4) rfl)), (fun _ h => absurd h List.not_mem_nil)⟩⟩⟩⟩, List.forall_mem_cons.mpr ⟨List.mem_cons_of_mem _ (List.mem_append_left _ (List.mem_of_getElem? (i := 5) rfl)), List.forall_mem_append.mpr ⟨List.forall_mem_cons.mpr ⟨List.mem_cons_of_mem _ (List.mem_append_left _ (List.mem_of_getElem? (i := 6) rfl)), List.forall_mem_cons.mpr ⟨List.mem_cons_of_mem _ (List.mem_append_left _ (List.mem_of_getElem? (i := 7) rfl)), List.forall_mem_cons.mpr ⟨List.mem_cons_of_mem _ (List.mem_append_left _ (List.mem_of_getElem? (i := 8) rfl)), (fun _ h => absurd h List.not_mem_nil)⟩⟩⟩, (fun _ h => List.mem_cons_of_mem _ (List.mem_append_right _ h))⟩⟩⟩) (by decide +kernel)
set_option maxHeartbeats 4000000 in
set_option maxRecDepth 100000 in
theorem x_X2_noteBodies_eN (l : Launch) (D : va_G) (sz : Nat) (sk : Value) (a : Nat → Nat) (t : Nat → ClassId) (i : Nat → Int32) (q : Int64) (c : Nat → Nat → Int32) (d : Nat → Nat → Int64) (s1 : Int32) (hI : xInv i c) (ht1 : (i 141).toInt = 1) : Met l yX2_noteBodies wm_X2_noteBodies_eN ({ frames := 1, cells := 0, slots := 0, locals := 21 }) (va_Pc [.ref (a 138), .int s1] (yB (a 186) D sz (xwT sk a t i q c d) (xtT t))) (va_Qv (fun (u : MS) => True ∧ xInv u.1 u.2.2.1 ∧ (∀ k, k ∉ ([140] : List Nat) → u.1 k = i k) ∧ (∀ k, k ∉ ([139] : List Nat) → u.2.2.1 k = c k) ∧ (((u.1 140), (u.2.2.1 139)) = nbZ s1.toInt ((i 140), (c 139)))) (oC D (va_A (xwT sk a t i q c d) sz) (fun u : MS => xwT sk a t u.1 u.2.1 u.2.2.1 u.2.2.2) (fun _ => [])) (va_A (xwT sk a t i q c d) sz)) 0 0 (va_A (xwT sk a t i q c d) sz) := by
  refine Met.ofW (cc := cX2_noteBodies) (maxL := 2) (ret := none) (by decide +kernel) rfl ?_
  intro p e s m args below meth cd s₁ B hml hv
  obtain ⟨rfl, ⟨hsz, hP, hK, hD0⟩, hN, hZ, hBW⟩ := hv
  have hx := B.exec
  have hb := B.bytes
  have hr := B.returns
  have hts := atoms_spec (ws := wm_X2_noteBodies_eN) B.pre
  have hown : s.vm.findClass RX2 = some m.cls := findClass_of_methodNamed B.named
  have hlocks := B.notSynchronized
  subst hsz
  have hD := hD0.self (sz := s.heap.size)
  have hZ := xZ_A hZ hP hBW
  generalize hAe : va_A (xwT sk a t i q c d) s.heap.size = A at hD hZ ⊢
  have hA : ∀ q : Nat, s.heap.size ≤ q → A q := fun q h => by rw [← hAe]; exact Or.inr h
  have hS : va_S A s.heap s.heap [] := va_S.rf
  have hfi : ∀ k, k ∉ ([] : List Nat) → i k = i k := fun _ _ => rfl
  have hfc : ∀ k, k ∉ ([] : List Nat) → c k = c k := fun _ _ => rfl
  have hl := lv_entry ([.ref (a 138), .int s1]) (n := 2) (Nat.le_of_ble_eq_true rfl)
  rw [lg_entry_eq]
  generalize (lg_sl ([.ref (a 138), .int s1]) ++ List.replicate (2 - (lg_sl ([.ref (a 138), .int s1])).length) Slot.unset).toArray = ls at hl ⊢
  have hl : lv_has ls 2 [(0, .ref (a 138)), (1, .int s1)] := hl
  refine lv_iload_n hx hb dX2_noteBodies_0 rfl (lv_at hl 1 rfl) ?_
  refine lv_iconst (v := 3) hx hb dX2_noteBodies_1 (by decide +kernel) ?_
  have jn1 : (2 ≤ s1.toInt ∧ s1.toInt ≤ 5) → ∀ (H : Heap) (locs : List Loc) (ls : Array Slot), va_P D vwCl (xwT sk a t i q c d) H → va_D A (xwT sk a t i q c d) → va_S A s.heap H locs → lv_has ls 2 [(0, .ref (a 138)), (1, .int s1)] → W p l e (headSpec wm_X2_noteBodies_eN ({ frames := 1, cells := 0, slots := 0, locals := 21 })).room s m ([.ref (a 138), .int s1] : List Value).toArray below meth cd H locs 0 0 (MQ below (va_Qv (fun (u : MS) => True ∧ xInv u.1 u.2.2.1 ∧ (∀ k, k ∉ ([140] : List Nat) → u.1 k = i k) ∧ (∀ k, k ∉ ([139] : List Nat) → u.2.2.1 k = c k) ∧ (((u.1 140), (u.2.2.1 139)) = nbZ s1.toInt ((i 140), (c 139)))) (oC D A (fun u : MS => xwT sk a t u.1 u.2.1 u.2.2.1 u.2.2.2) (fun _ => [])) A) ([.ref (a 138), .int s1] : List Value).toArray s 0 0 A) (F0 m 20 ls []) := by
    intro hz1_0 H locs ls hP hD hS hl
    refine lv_aload_n hx hb dX2_noteBodies_20 rfl (lv_at hl 0 rfl) ?_
    refine va_gets hx hb hZ.1 hS hown (hts (.fieldLink RX2 60 "TalePlay$Bulks" "BODIES" "[I") (List.mem_cons_of_mem _ (List.mem_append_left _ (List.mem_of_getElem? (i := 0) rfl)))) (fun _ h9 => h9) dX2_noteBodies_21 ?_
    refine lv_iload_n hx hb dX2_noteBodies_24 rfl (lv_at hl 1 rfl) ?_
    refine va_ti (v := .int (bodV (s1 : Int32).toNatClampNeg)) hx hb hZ.2 hS (vp_in_iff.mpr (by have h9 : s1.toInt = s1.toInt := rfl; omega)) rfl dX2_noteBodies_25 ?_
    refine lv_topi (fun x2 ex2 => ?_)
    have rb140_i : 0 ≤ (i 140).toInt ∧ (i 140).toInt ≤ 100 := hI.1 140
    have rb141_i : 0 ≤ (i 141).toInt ∧ (i 141).toInt ≤ 1 := hI.1 141
    refine al_callv (va_runV (As := [.int x2]) (rest := []) ⟨hx, hb, hml, hown, hts⟩ (x_X2_note_eN l D H.size sk a t i q c d x2 hI (show ((i 141) : Int32).toInt = 1 from by omega)) (cwV 1 hts gm_X2_noteBodies_eN_X2_note_eN_63 rfl rfl rfl (by decide +kernel) ⟨Nat.le_of_ble_eq_true rfl, Nat.le_of_ble_eq_true rfl⟩) (yB_V hN (xZ_k hZ hS hA) (xZ_n hZ hD) hK hP hD (ci := 2) (q0 := 31) rfl rfl) rfl rfl hl.1 rfl (lv_room (Nat.le_of_ble_eq_true rfl)) dX2_noteBodies_26 ⟨Nat.le_of_ble_eq_true rfl, Nat.le_of_ble_eq_true rfl⟩) hS hA hP hD (fun u3 H locs hw3 hP hD hS => ?_)
    obtain ⟨i3, q3, c3, d3⟩ := u3
    have hw3 : True ∧ xInv i3 c3 ∧ (∀ k, k ∉ ([140] : List Nat) → i3 k = i k) ∧ (∀ k, k ∉ ([139] : List Nat) → c3 k = c k) ∧ (((i3 140), (c3 139)) = nb x2 ((i 140), (c 139))) := hw3
    obtain ⟨hw3, hI, hei3, hec3, hxp3_0⟩ := hw3
    have hxp3_0 : ((i3 140), (c3 139)) = nb x2 ((i 140), (c 139)) := hxp3_0
    have hfi : ∀ k, k ∉ ([140] : List Nat) → i3 k = i k := fr_z hfi hei3 (by decide +kernel) (by decide +kernel)
    have hfc : ∀ k, k ∉ ([139] : List Nat) → c3 k = c k := fr_z hfc hec3 (by decide +kernel) (by decide +kernel)
    refine lv_aload_n hx hb dX2_noteBodies_29 rfl (lv_at hl 0 rfl) ?_
    refine va_gets hx hb hZ.1 hS hown (hts (.fieldLink RX2 60 "TalePlay$Bulks" "BODIES" "[I") (List.mem_cons_of_mem _ (List.mem_append_left _ (List.mem_of_getElem? (i := 0) rfl)))) (fun _ h9 => h9) dX2_noteBodies_30 ?_
    refine lv_iconst (v := 1) hx hb dX2_noteBodies_33 (by decide +kernel) ?_
    refine va_ti (v := .int (bodV (1 : Int32).toNatClampNeg)) hx hb hZ.2 hS (show vp_in 1 6 from by unfold vp_in; decide) rfl dX2_noteBodies_34 ?_
    refine lv_topi (fun x4 ex4 => ?_)
    have rb140_i3 : 0 ≤ (i3 140).toInt ∧ (i3 140).toInt ≤ 100 := hI.1 140
    have rb141_i3 : 0 ≤ (i3 141).toInt ∧ (i3 141).toInt ≤ 1 := hI.1 141
    have re141_i3 : (i3 141).toInt = (i 141).toInt := congrArg Int32.toInt (hfi 141 (by decide +kernel))
    refine al_callv (va_runV (As := [.int x4]) (rest := []) ⟨hx, hb, hml, hown, hts⟩ (x_X2_note_eN l D H.size sk a t i3 q3 c3 d3 x4 hI (show ((i3 141) : Int32).toInt = 1 from by omega)) (cwV 1 hts gm_X2_noteBodies_eN_X2_note_eN_63 rfl rfl rfl (by decide +kernel) ⟨Nat.le_of_ble_eq_true rfl, Nat.le_of_ble_eq_true rfl⟩) (yB_V hN (xZ_k hZ hS hA) (xZ_n hZ hD) hK hP hD (ci := 2) (q0 := 31) rfl rfl) rfl rfl hl.1 rfl (lv_room (Nat.le_of_ble_eq_true rfl)) dX2_noteBodies_35 ⟨Nat.le_of_ble_eq_true rfl, Nat.le_of_ble_eq_true rfl⟩) hS hA hP hD (fun u5 H locs hw5 hP hD hS => ?_)
    obtain ⟨i5, q5, c5, d5⟩ := u5
    have hw5 : True ∧ xInv i5 c5 ∧ (∀ k, k ∉ ([140] : List Nat) → i5 k = i3 k) ∧ (∀ k, k ∉ ([139] : List Nat) → c5 k = c3 k) ∧ (((i5 140), (c5 139)) = nb x4 ((i3 140), (c3 139))) := hw5
    obtain ⟨hw5, hI, hei5, hec5, hxp5_0⟩ := hw5
    have hxp5_0 : ((i5 140), (c5 139)) = nb x4 ((i3 140), (c3 139)) := hxp5_0
    have hfi : ∀ k, k ∉ ([140] : List Nat) → i5 k = i k := fr_z hfi hei5 (by decide +kernel) (by decide +kernel)
    have hfc : ∀ k, k ∉ ([139] : List Nat) → c5 k = c k := fr_z hfc hec5 (by decide +kernel) (by decide +kernel)
    exact rw_vret (i5, q5, c5, d5) hx hb hr hlocks hS (hK.sub (tys' := []) [] rfl) hP hD dX2_noteBodies_38 ⟨trivial, hI, fr_w hfi (by decide +kernel), fr_w hfc (by decide +kernel), (show (((i5 140) : Int32), (c5 139)) = nbZ s1.toInt ((i 140), (c 139)) from by rw [hxp5_0, hxp3_0]; exact nbZ_b (by omega) ex2 ex4)⟩
  refine lv_icmp_eq (tgt := 20) hx hb dX2_noteBodies_2 (by decide +kernel) (fun c6 => ?_) (fun c6 => ?_)
  · have f6 := (ti_eq (a := s1.toInt) (b := 3) rfl (by decide +kernel)).mp c6
    exact jn1   (show 2 ≤ s1.toInt ∧ s1.toInt ≤ 5 from by omega) _ _ _ hP hD hS (lv_sub hl [0, 1] rfl)
  · have f6 := mt (ti_eq (a := s1.toInt) (b := 3) rfl (by decide +kernel)).mpr c6
    refine lv_iload_n hx hb dX2_noteBodies_5 rfl (lv_at hl 1 rfl) ?_
    refine lv_iconst (v := 4) hx hb dX2_noteBodies_6 (by decide +kernel) ?_
    refine lv_icmp_eq (tgt := 20) hx hb dX2_noteBodies_7 (by decide +kernel) (fun c7 => ?_) (fun c7 => ?_)
    · have f7 := (ti_eq (a := s1.toInt) (b := 4) rfl (by decide +kernel)).mp c7
      exact jn1   (show 2 ≤ s1.toInt ∧ s1.toInt ≤ 5 from by omega) _ _ _ hP hD hS (lv_sub hl [0, 1] rfl)
    · have f7 := mt (ti_eq (a := s1.toInt) (b := 4) rfl (by decide +kernel)).mpr c7
      refine lv_iload_n hx hb dX2_noteBodies_10 rfl (lv_at hl 1 rfl) ?_
      refine lv_iconst (v := 2) hx hb dX2_noteBodies_11 (by decide +kernel) ?_
      refine lv_icmp_eq (tgt := 20) hx hb dX2_noteBodies_12 (by decide +kernel) (fun c8 => ?_) (fun c8 => ?_)
      · have f8 := (ti_eq (a := s1.toInt) (b := 2) rfl (by decide +kernel)).mp c8
        exact jn1   (show 2 ≤ s1.toInt ∧ s1.toInt ≤ 5 from by omega) _ _ _ hP hD hS (lv_sub hl [0, 1] rfl)
      · have f8 := mt (ti_eq (a := s1.toInt) (b := 2) rfl (by decide +kernel)).mpr c8
        refine lv_iload_n hx hb dX2_noteBodies_15 rfl (lv_at hl 1 rfl) ?_
        refine lv_iconst (v := 5) hx hb dX2_noteBodies_16 (by decide +kernel) ?_
        refine lv_icmp_ne (tgt := 29) hx hb dX2_noteBodies_17 (by decide +kernel) (fun c9 => ?_) (fun c9 => ?_)
        · have f9 := mt (ti_eq (a := s1.toInt) (b := 5) rfl (by decide +kernel)).mpr c9
          refine lv_aload_n hx hb dX2_noteBodies_29 rfl (lv_at hl 0 rfl) ?_
          refine va_gets hx hb hZ.1 hS hown (hts (.fieldLink RX2 60 "TalePlay$Bulks" "BODIES" "[I") (List.mem_cons_of_mem _ (List.mem_append_left _ (List.mem_of_getElem? (i := 0) rfl)))) (fun _ h9 => h9) dX2_noteBodies_30 ?_
          refine lv_iconst (v := 1) hx hb dX2_noteBodies_33 (by decide +kernel) ?_
          refine va_ti (v := .int (bodV (1 : Int32).toNatClampNeg)) hx hb hZ.2 hS (show vp_in 1 6 from by unfold vp_in; decide) rfl dX2_noteBodies_34 ?_
          refine lv_topi (fun x10 ex10 => ?_)
          have rb140_i : 0 ≤ (i 140).toInt ∧ (i 140).toInt ≤ 100 := hI.1 140
          have rb141_i : 0 ≤ (i 141).toInt ∧ (i 141).toInt ≤ 1 := hI.1 141
          refine al_callv (va_runV (As := [.int x10]) (rest := []) ⟨hx, hb, hml, hown, hts⟩ (x_X2_note_eN l D s.heap.size sk a t i q c d x10 hI (show ((i 141) : Int32).toInt = 1 from by omega)) (cwV 1 hts gm_X2_noteBodies_eN_X2_note_eN_63 rfl rfl rfl (by decide +kernel) ⟨Nat.le_of_ble_eq_true rfl, Nat.le_of_ble_eq_true rfl⟩) (yB_V hN (xZ_k hZ hS hA) (xZ_n hZ hD) hK hP hD (ci := 2) (q0 := 31) rfl rfl) rfl rfl hl.1 rfl (lv_room (Nat.le_of_ble_eq_true rfl)) dX2_noteBodies_35 ⟨Nat.le_of_ble_eq_true rfl, Nat.le_of_ble_eq_true rfl⟩) hS hA hP hD (fun u11 H locs hw11 hP hD hS => ?_)
          obtain ⟨i11, q11, c11, d11⟩ := u11
          have hw11 : True ∧ xInv i11 c11 ∧ (∀ k, k ∉ ([140] : List Nat) → i11 k = i k) ∧ (∀ k, k ∉ ([139] : List Nat) → c11 k = c k) ∧ (((i11 140), (c11 139)) = nb x10 ((i 140), (c 139))) := hw11
          obtain ⟨hw11, hI, hei11, hec11, hxp11_0⟩ := hw11
          have hxp11_0 : ((i11 140), (c11 139)) = nb x10 ((i 140), (c 139)) := hxp11_0
          have hfi : ∀ k, k ∉ ([140] : List Nat) → i11 k = i k := fr_z hfi hei11 (by decide +kernel) (by decide +kernel)
          have hfc : ∀ k, k ∉ ([139] : List Nat) → c11 k = c k := fr_z hfc hec11 (by decide +kernel) (by decide +kernel)
          exact rw_vret (i11, q11, c11, d11) hx hb hr hlocks hS (hK.sub (tys' := []) [] rfl) hP hD dX2_noteBodies_38 ⟨trivial, hI, fr_w hfi (by decide +kernel), fr_w hfc (by decide +kernel), (show (((i11 140) : Int32), (c11 139)) = nbZ s1.toInt ((i 140), (c 139)) from by rw [hxp11_0]; exact nbZ_q (by omega) ex10)⟩
        · have f9 := (ti_eq (a := s1.toInt) (b := 5) rfl (by decide +kernel)).mp c9
          exact jn1   (show 2 ≤ s1.toInt ∧ s1.toInt ≤ 5 from by omega) _ _ _ hP hD hS (lv_sub hl [0, 1] rfl)

