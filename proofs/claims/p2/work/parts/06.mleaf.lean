def wm_X12_in : List Cond := .code yX12_in cX12_in 6 (some .boolean) :: (([] : List Cond))
set_option maxHeartbeats 4000000 in
set_option maxRecDepth 100000 in
/-- in(v, lo, hi) -/
theorem c_X12_in (l : Launch) (D : va_G) (sz : Nat) (v : Int64) (lo : Int64) (hi : Int64) (a : Int) (b : Int) (d : Int) (ha : v.toInt = a) (hb_ : lo.toInt = b) (hd_ : hi.toInt = d) : Met l yX12_in wm_X12_in ({ frames := 0, cells := 0, slots := 0, locals := 0 }) (va_Pc [.long v, .long lo, .long hi] (pA D sz [] [])) (va_Qi (fun (r : Int32) (_ : Unit) => r = if (b ≤ a ∧ a ≤ d) then 1 else 0) oA (ro sz)) 0 0 (ro sz) := by
  refine Met.ofW (cc := cX12_in) (maxL := 6) (ret := (some .boolean)) (by decide) rfl ?_
  intro p e s m args below meth c s₁ B hml hv
  obtain ⟨rfl, hsz, hP, hK⟩ := hv
  have hx := B.exec
  have hb := B.bytes
  have hr := B.returns
  have hts := atoms_spec (ws := wm_X12_in) B.pre
  have hown : s.vm.findClass RX12 = some m.cls := findClass_of_methodNamed B.named
  have hlocks := B.notSynchronized
  subst hsz
  have hA : ∀ q : Nat, s.heap.size ≤ q → ro s.heap.size q := fun _ h => h
  have hS : va_S (ro s.heap.size) s.heap s.heap [] := va_S.rf
  have hP : va_P D vwCl [] s.heap := hP
  have hl := lv_entry ([.long v, .long lo, .long hi]) (n := 6) (Nat.le_of_ble_eq_true rfl)
  rw [lg_entry_eq]
  generalize (lg_sl ([.long v, .long lo, .long hi]) ++ List.replicate (6 - (lg_sl ([.long v, .long lo, .long hi])).length) Slot.unset).toArray = ls at hl ⊢
  have hl : lv_has ls 6 [(0, .long v), (2, .long lo), (4, .long hi)] := hl
  refine lv_lload_n hx hb dX12_in_0 rfl (lv_at hl 0 rfl) ?_
  refine lv_lload_n hx hb dX12_in_1 rfl (lv_at hl 1 rfl) ?_
  refine W.lcmp hx hb dX12_in_2 ?_
  refine lv_if_lt (tgt := 17) hx hb dX12_in_3 (by decide) (fun c1 => ?_) (fun c1 => ?_)
  · have f1 := (lc_lt (a := a) (b := b) ha hb_).mp c1
    refine lv_iconst (v := 0) hx hb dX12_in_17 (by decide) ?_
    exact ro_zret hx hb hr hlocks hS rfl dX12_in_18 (by show _ = _; rw [if_neg (by omega)])
  · have f1 := mt (lc_lt (a := a) (b := b) ha hb_).mpr c1
    refine lv_lload_n hx hb dX12_in_6 rfl (lv_at hl 0 rfl) ?_
    refine lv_lload hx hb dX12_in_7 (lv_at hl 2 rfl) ?_
    refine W.lcmp hx hb dX12_in_9 ?_
    refine lv_if_gt (tgt := 17) hx hb dX12_in_10 (by decide) (fun c2 => ?_) (fun c2 => ?_)
    · have f2 := (lc_gt (a := a) (b := d) ha hd_).mp c2
      refine lv_iconst (v := 0) hx hb dX12_in_17 (by decide) ?_
      exact ro_zret hx hb hr hlocks hS rfl dX12_in_18 (by show _ = _; rw [if_neg (by omega)])
    · have f2 := mt (lc_gt (a := a) (b := d) ha hd_).mpr c2
      refine lv_iconst (v := 1) hx hb dX12_in_13 (by decide) ?_
      refine lv_goto (tgt := 18) hx hb dX12_in_14 (by decide) ?_
      exact ro_zret hx hb hr hlocks hS rfl dX12_in_18 (by show _ = _; rw [if_pos (by omega)])

def wm_X12_hasSecond : List Cond := .code yX12_hasSecond cX12_hasSecond 1 (some .boolean) :: (([] : List Cond))
set_option maxHeartbeats 4000000 in
set_option maxRecDepth 100000 in
theorem c_X12_hasSecond (l : Launch) (D : va_G) (sz : Nat) (v : Int32) : Met l yX12_hasSecond wm_X12_hasSecond ({ frames := 0, cells := 0, slots := 0, locals := 0 }) (va_Pc [.int v] (pA D sz [] [])) (va_Qi (fun (r : Int32) (_ : Unit) => r = if (v.toInt = 3 ∨ v.toInt = 4 ∨ v.toInt = 7 ∨ v.toInt = 8) then 1 else 0) oA (ro sz)) 0 0 (ro sz) := by
  refine Met.ofW (cc := cX12_hasSecond) (maxL := 1) (ret := (some .boolean)) (by decide) rfl ?_
  intro p e s m args below meth c s₁ B hml hv
  obtain ⟨rfl, hsz, hP, hK⟩ := hv
  have hx := B.exec
  have hb := B.bytes
  have hr := B.returns
  have hts := atoms_spec (ws := wm_X12_hasSecond) B.pre
  have hown : s.vm.findClass RX12 = some m.cls := findClass_of_methodNamed B.named
  have hlocks := B.notSynchronized
  subst hsz
  have hA : ∀ q : Nat, s.heap.size ≤ q → ro s.heap.size q := fun _ h => h
  have hS : va_S (ro s.heap.size) s.heap s.heap [] := va_S.rf
  have hP : va_P D vwCl [] s.heap := hP
  have hl := lv_entry ([.int v]) (n := 1) (Nat.le_of_ble_eq_true rfl)
  rw [lg_entry_eq]
  generalize (lg_sl ([.int v]) ++ List.replicate (1 - (lg_sl ([.int v])).length) Slot.unset).toArray = ls at hl ⊢
  have hl : lv_has ls 1 [(0, .int v)] := hl
  refine lv_iload_n hx hb dX12_hasSecond_0 rfl (lv_at hl 0 rfl) ?_
  refine lv_iconst (v := 3) hx hb dX12_hasSecond_1 (by decide) ?_
  refine lv_icmp_eq (tgt := 22) hx hb dX12_hasSecond_2 (by decide) (fun c1 => ?_) (fun c1 => ?_)
  · have f1 := (ti_eq (a := v.toInt) (b := 3) rfl (by decide)).mp c1
    refine lv_iconst (v := 1) hx hb dX12_hasSecond_22 (by decide) ?_
    refine lv_goto (tgt := 27) hx hb dX12_hasSecond_23 (by decide) ?_
    exact ro_zret hx hb hr hlocks hS rfl dX12_hasSecond_27 (by show _ = _; rw [if_pos (by omega)])
  · have f1 := mt (ti_eq (a := v.toInt) (b := 3) rfl (by decide)).mpr c1
    refine lv_iload_n hx hb dX12_hasSecond_5 rfl (lv_at hl 0 rfl) ?_
    refine lv_iconst (v := 4) hx hb dX12_hasSecond_6 (by decide) ?_
    refine lv_icmp_eq (tgt := 22) hx hb dX12_hasSecond_7 (by decide) (fun c2 => ?_) (fun c2 => ?_)
    · have f2 := (ti_eq (a := v.toInt) (b := 4) rfl (by decide)).mp c2
      refine lv_iconst (v := 1) hx hb dX12_hasSecond_22 (by decide) ?_
      refine lv_goto (tgt := 27) hx hb dX12_hasSecond_23 (by decide) ?_
      exact ro_zret hx hb hr hlocks hS rfl dX12_hasSecond_27 (by show _ = _; rw [if_pos (by omega)])
    · have f2 := mt (ti_eq (a := v.toInt) (b := 4) rfl (by decide)).mpr c2
      refine lv_iload_n hx hb dX12_hasSecond_10 rfl (lv_at hl 0 rfl) ?_
      refine lv_bipush (v := 7) hx hb dX12_hasSecond_11 (by decide) ?_
      refine lv_icmp_eq (tgt := 22) hx hb dX12_hasSecond_13 (by decide) (fun c3 => ?_) (fun c3 => ?_)
      · have f3 := (ti_eq (a := v.toInt) (b := 7) rfl (by decide)).mp c3
        refine lv_iconst (v := 1) hx hb dX12_hasSecond_22 (by decide) ?_
        refine lv_goto (tgt := 27) hx hb dX12_hasSecond_23 (by decide) ?_
        exact ro_zret hx hb hr hlocks hS rfl dX12_hasSecond_27 (by show _ = _; rw [if_pos (by omega)])
      · have f3 := mt (ti_eq (a := v.toInt) (b := 7) rfl (by decide)).mpr c3
        refine lv_iload_n hx hb dX12_hasSecond_16 rfl (lv_at hl 0 rfl) ?_
        refine lv_bipush (v := 8) hx hb dX12_hasSecond_17 (by decide) ?_
        refine lv_icmp_ne (tgt := 26) hx hb dX12_hasSecond_19 (by decide) (fun c4 => ?_) (fun c4 => ?_)
        · have f4 := mt (ti_eq (a := v.toInt) (b := 8) rfl (by decide)).mpr c4
          refine lv_iconst (v := 0) hx hb dX12_hasSecond_26 (by decide) ?_
          exact ro_zret hx hb hr hlocks hS rfl dX12_hasSecond_27 (by show _ = _; rw [if_neg (by omega)])
        · have f4 := (ti_eq (a := v.toInt) (b := 8) rfl (by decide)).mp c4
          refine lv_iconst (v := 1) hx hb dX12_hasSecond_22 (by decide) ?_
          refine lv_goto (tgt := 27) hx hb dX12_hasSecond_23 (by decide) ?_
          exact ro_zret hx hb hr hlocks hS rfl dX12_hasSecond_27 (by show _ = _; rw [if_pos (by omega)])

def wm_X12_isObject : List Cond := .code yX12_isObject cX12_isObject 2 (some .boolean) :: (([.fieldLink RX12 177 "TalePlayModel" "objects" "I", .methodLink RX12 166 yX12_in, .static yX12_in, .initialized RX12, .code yX12_in cX12_in 6 (some .boolean)] : List Cond) ++ wsX120)
set_option maxRecDepth 20000 in
theorem gm_X12_isObject_X12_in : GoodIn wm_X12_isObject (va_wsS RX12 166 yX12_in wm_X12_in) := goodIn_app (goodIn_of _ (by decide +kernel)) (goodIn_r _ [5] (by decide +kernel) (by decide +kernel))
set_option maxHeartbeats 4000000 in
set_option maxRecDepth 100000 in
theorem s_X12_isObject (l : Launch) (D : va_G) (sz : Nat) (o : Nat) (a : Nat → Nat) (t : Nat → ClassId) (i : Nat → Int32) (q : Int64) (c : Nat → Nat → Int32) (d : Nat → Nat → Int64) (w : Int32) (hI : mInv i c) : Met l yX12_isObject wm_X12_isObject ({ frames := 1, cells := 0, slots := 0, locals := 25 }) (va_Pc [.ref o, .int w] (pA D sz (mW o a t i q c d) (mT t))) (va_Qi (fun (r : Int32) (_ : Unit) => r = (if (0 ≤ w.toInt ∧ w.toInt ≤ (i 5).toInt - 1) then 1 else 0)) oA (ro sz)) 0 0 (ro sz) := by
  refine Met.ofW (cc := cX12_isObject) (maxL := 2) (ret := (some .boolean)) (by decide) rfl ?_
  intro p e s m args below meth cd s₁ B hml hv
  obtain ⟨rfl, hsz, hP, hK⟩ := hv
  have hx := B.exec
  have hb := B.bytes
  have hr := B.returns
  have hts := atoms_spec (ws := wm_X12_isObject) B.pre
  have hown : s.vm.findClass RX12 = some m.cls := findClass_of_methodNamed B.named
  have hlocks := B.notSynchronized
  subst hsz
  have hA : ∀ q : Nat, s.heap.size ≤ q → ro s.heap.size q := fun _ h => h
  have hS : va_S (ro s.heap.size) s.heap s.heap [] := va_S.rf
  have hl := lv_entry ([.ref o, .int w]) (n := 2) (Nat.le_of_ble_eq_true rfl)
  rw [lg_entry_eq]
  generalize (lg_sl ([.ref o, .int w]) ++ List.replicate (2 - (lg_sl ([.ref o, .int w])).length) Slot.unset).toArray = ls at hl ⊢
  have hl : lv_has ls 2 [(0, .ref o), (1, .int w)] := hl
  refine lv_iload_n hx hb dX12_isObject_0 rfl (lv_at hl 1 rfl) ?_
  refine lv_i2l (v := w.toInt64) hx hb dX12_isObject_1 rfl ?_
  refine lv_lconst (v := 0) hx hb dX12_isObject_2 (by decide) ?_
  refine lv_aload_n hx hb dX12_isObject_3 rfl (lv_at hl 0 rfl) ?_
  refine va_get (D := D) (ci := 12) (v := .int (i 5)) (C := RX12) (T := TX12) (N := 69) hx hb hts (fun _ h => List.mem_cons_of_mem _ (List.mem_append_right _ h)) hown hK hP 0 rfl rfl 5 (by decide) (hts (.fieldLink RX12 177 "TalePlayModel" "objects" "I") (by decide +kernel)) (fun _ h9 => h9) rfl dX12_isObject_4 ?_
  have rb5_i : 0 ≤ (i 5).toInt ∧ (i 5).toInt ≤ 30 := hI.1 5
  refine lv_iconst (v := 1) hx hb dX12_isObject_7 (by decide) ?_
  refine lv_isub hx hb dX12_isObject_8 ?_
  refine lv_topi (fun x1 ex1 => ?_)
  have tx1 := ti_sub (a := (i 5).toInt) (b := 1) ex1 rfl (by decide) (by omega) (by omega)
  refine lv_i2l (v := x1.toInt64) hx hb dX12_isObject_9 rfl ?_
  have hPc := hP.sub (ws' := []) [] rfl
  have hKc := hK.sub (tys' := []) [] rfl
  refine ro_calli (va_runS (As := [.long w.toInt64, .long 0, .long x1.toInt64]) (rest := []) ⟨hx, hb, hml, hown, hts⟩ (c_X12_in l D s.heap.size w.toInt64 0 x1.toInt64 w.toInt 0 ((i 5).toInt - 1) ((Int32.toInt_toInt64 w).trans rfl) (by decide) ((Int32.toInt_toInt64 x1).trans tx1)) (va_cwS 3 hts gm_X12_isObject_X12_in rfl rfl rfl (by decide +kernel) ⟨Nat.le_of_ble_eq_true rfl, Nat.le_of_ble_eq_true rfl⟩) (pA_S hKc hPc) rfl rfl hl.1 rfl (lv_room (Nat.le_of_ble_eq_true rfl)) dX12_isObject_10 ⟨Nat.le_of_ble_eq_true rfl, Nat.le_of_ble_eq_true rfl⟩) hS hA hP (fun r2 u2 H locs hw2 hP hS => ?_)
  have hw2 : r2 = if (0 ≤ w.toInt ∧ w.toInt ≤ ((i 5).toInt - 1)) then 1 else 0 := hw2
  exact ro_zret hx hb hr hlocks hS (fl_n hw2) dX12_isObject_13 (by show _ = _; rw [hw2]; try ((repeat' split) <;> first | rfl | (exfalso; omega)))

def wm_X12_endTale : List Cond := .code yX12_endTale cX12_endTale 1 none :: (([.fieldLink RX12 155 "TalePlayModel" "player" "I", .fieldLink RX12 291 "TalePlayModel" "turns" "I"] : List Cond) ++ wsX120)
set_option maxHeartbeats 4000000 in
set_option maxRecDepth 100000 in
theorem s_X12_endTale (l : Launch) (D : va_G) (sz : Nat) (o : Nat) (a : Nat → Nat) (t : Nat → ClassId) (i : Nat → Int32) (q : Int64) (c : Nat → Nat → Int32) (d : Nat → Nat → Int64) (hI : mInv i c) : Met l yX12_endTale wm_X12_endTale ({ frames := 0, cells := 0, slots := 0, locals := 0 }) (va_Pc [.ref o] (pB D sz (mW o a t i q c d) (mT t))) (va_Qv (fun (u : MS) => True ∧ mInv u.1 u.2.2.1 ∧ (∀ k, k ∉ ([22, 27] : List Nat) → u.1 k = i k) ∧ (∀ k, k ∉ ([] : List Nat) → u.2.2.1 k = c k)) (oC D (va_A (mW o a t i q c d) sz) (fun u : MS => mW o a t u.1 u.2.1 u.2.2.1 u.2.2.2) (fun _ => [])) (va_A (mW o a t i q c d) sz)) 0 0 (va_A (mW o a t i q c d) sz) := by
  refine Met.ofW (cc := cX12_endTale) (maxL := 1) (ret := none) (by decide) rfl ?_
  intro p e s m args below meth cd s₁ B hml hv
  obtain ⟨rfl, hsz, hP, hK, hD0⟩ := hv
  have hx := B.exec
  have hb := B.bytes
  have hr := B.returns
  have hts := atoms_spec (ws := wm_X12_endTale) B.pre
  have hown : s.vm.findClass RX12 = some m.cls := findClass_of_methodNamed B.named
  have hlocks := B.notSynchronized
  subst hsz
  have hD := hD0.self (sz := s.heap.size)
  generalize hAe : va_A (mW o a t i q c d) s.heap.size = A at hD ⊢
  have hA : ∀ q : Nat, s.heap.size ≤ q → A q := fun q h => by rw [← hAe]; exact Or.inr h
  have hS : va_S A s.heap s.heap [] := va_S.rf
  have hfi : ∀ k, k ∉ ([22, 27] : List Nat) → i k = i k := fun _ _ => rfl
  have hfc : ∀ k, k ∉ ([] : List Nat) → c k = c k := fun _ _ => rfl
  have hl := lv_entry ([.ref o]) (n := 1) (Nat.le_of_ble_eq_true rfl)
  rw [lg_entry_eq]
  generalize (lg_sl ([.ref o]) ++ List.replicate (1 - (lg_sl ([.ref o])).length) Slot.unset).toArray = ls at hl ⊢
  have hl : lv_has ls 1 [(0, .ref o)] := hl
  refine lv_aload_n hx hb dX12_endTale_0 rfl (lv_at hl 0 rfl) ?_
  refine lv_bipush (v := (-9)) hx hb dX12_endTale_1 (by decide) ?_
  refine va_put (D := D) (ci := 12) (v := .int (-9)) (ty := .int) (C := RX12) (T := TX12) (N := 69) hx hb hts (fun _ h => List.mem_cons_of_mem _ (List.mem_append_right _ h)) tyX12 tyX12_ok nmX12 hown hK hP hD hS 0 rfl rfl 22 (by decide) (hts (.fieldLink RX12 155 "TalePlayModel" "player" "I") (by decide +kernel)) (fun _ h9 => h9) rfl (by decide +kernel) rfl rfl (Nat.le_of_ble_eq_true rfl) dX12_endTale_3 (fun H locs hP hD hS => ?_)
  have hI := mInv_i hI (k := 22) (v := (-9)) (show ((-9) : Int32).toInt = -9 ∨ (0 ≤ ((-9) : Int32).toInt ∧ ((-9) : Int32).toInt ≤ 29) from by decide)
  have hfi := fr_i hfi (k := 22) (v := (-9)) (by decide)
  have hP : va_P D vwCl (mW o a t (upd i 22 (-9)) q c d) H := hP
  have hD : va_D A (mW o a t (upd i 22 (-9)) q c d) := hD
  refine lv_aload_n hx hb dX12_endTale_6 rfl (lv_at hl 0 rfl) ?_
  refine lv_iconst (v := 0) hx hb dX12_endTale_7 (by decide) ?_
  refine va_put (D := D) (ci := 12) (v := .int 0) (ty := .int) (C := RX12) (T := TX12) (N := 69) hx hb hts (fun _ h => List.mem_cons_of_mem _ (List.mem_append_right _ h)) tyX12 tyX12_ok nmX12 hown hK hP hD hS 0 rfl rfl 27 (by decide) (hts (.fieldLink RX12 291 "TalePlayModel" "turns" "I") (by decide +kernel)) (fun _ h9 => h9) rfl (by decide +kernel) rfl rfl (Nat.le_of_ble_eq_true rfl) dX12_endTale_8 (fun H locs hP hD hS => ?_)
  have hI := mInv_i hI (k := 27) (v := 0) (show 0 ≤ (0 : Int32).toInt ∧ (0 : Int32).toInt ≤ 100 from by decide)
  have hfi := fr_i hfi (k := 27) (v := 0) (by decide)
  have hP : va_P D vwCl (mW o a t (upd (upd i 22 (-9)) 27 0) q c d) H := hP
  have hD : va_D A (mW o a t (upd (upd i 22 (-9)) 27 0) q c d) := hD
  exact rw_vret ((upd (upd i 22 (-9)) 27 0), q, c, d) hx hb hr hlocks hS (hK.sub (tys' := []) [] rfl) hP hD dX12_endTale_11 ⟨trivial, hI, hfi, hfc⟩

def wm_X12_meets : List Cond := .code yX12_meets cX12_meets 2 (some .int) :: (([.fieldLink RX12 161 "TalePlayModel" "latest" "I", .fieldLink RX12 7 "TalePlayModel" "came" "[I"] : List Cond) ++ wsX120)
set_option maxHeartbeats 4000000 in
set_option maxRecDepth 100000 in
theorem s_X12_meets (l : Launch) (D : va_G) (sz : Nat) (o : Nat) (a : Nat → Nat) (t : Nat → ClassId) (i : Nat → Int32) (q : Int64) (c : Nat → Nat → Int32) (d : Nat → Nat → Int64) (f : Int32) (hI : mInv i c) (hf : 1 ≤ f.toInt ∧ f.toInt ≤ 6) : Met l yX12_meets wm_X12_meets ({ frames := 0, cells := 0, slots := 0, locals := 0 }) (va_Pc [.ref o, .int f] (pB D sz (mW o a t i q c d) (mT t))) (va_Qi (fun (r : Int32) (u : MS) => r = (-3) ∧ mInv u.1 u.2.2.1 ∧ (∀ k, k ∉ ([0] : List Nat) → u.1 k = i k) ∧ (∀ k, k ∉ ([1] : List Nat) → u.2.2.1 k = c k)) (oC D (va_A (mW o a t i q c d) sz) (fun u : MS => mW o a t u.1 u.2.1 u.2.2.1 u.2.2.2) (fun _ => [])) (va_A (mW o a t i q c d) sz)) 0 0 (va_A (mW o a t i q c d) sz) := by
  refine Met.ofW (cc := cX12_meets) (maxL := 2) (ret := (some .int)) (by decide) rfl ?_
  intro p e s m args below meth cd s₁ B hml hv
  obtain ⟨rfl, hsz, hP, hK, hD0⟩ := hv
  have hx := B.exec
  have hb := B.bytes
  have hr := B.returns
  have hts := atoms_spec (ws := wm_X12_meets) B.pre
  have hown : s.vm.findClass RX12 = some m.cls := findClass_of_methodNamed B.named
  have hlocks := B.notSynchronized
  subst hsz
  have hD := hD0.self (sz := s.heap.size)
  generalize hAe : va_A (mW o a t i q c d) s.heap.size = A at hD ⊢
  have hA : ∀ q : Nat, s.heap.size ≤ q → A q := fun q h => by rw [← hAe]; exact Or.inr h
  have hS : va_S A s.heap s.heap [] := va_S.rf
  have hfi : ∀ k, k ∉ ([0] : List Nat) → i k = i k := fun _ _ => rfl
  have hfc : ∀ k, k ∉ ([1] : List Nat) → c k = c k := fun _ _ => rfl
  have hl := lv_entry ([.ref o, .int f]) (n := 2) (Nat.le_of_ble_eq_true rfl)
  rw [lg_entry_eq]
  generalize (lg_sl ([.ref o, .int f]) ++ List.replicate (2 - (lg_sl ([.ref o, .int f])).length) Slot.unset).toArray = ls at hl ⊢
  have hl : lv_has ls 2 [(0, .ref o), (1, .int f)] := hl
  refine lv_aload_n hx hb dX12_meets_0 rfl (lv_at hl 0 rfl) ?_
  refine lv_iload_n hx hb dX12_meets_1 rfl (lv_at hl 1 rfl) ?_
  refine va_put (D := D) (ci := 12) (v := .int f) (ty := .int) (C := RX12) (T := TX12) (N := 69) hx hb hts (fun _ h => List.mem_cons_of_mem _ (List.mem_append_right _ h)) tyX12 tyX12_ok nmX12 hown hK hP hD hS 0 rfl rfl 0 (by decide) (hts (.fieldLink RX12 161 "TalePlayModel" "latest" "I") (by decide +kernel)) (fun _ h9 => h9) rfl (by decide +kernel) rfl rfl (Nat.le_of_ble_eq_true rfl) dX12_meets_2 (fun H locs hP hD hS => ?_)
  have hI := mInv_i hI (k := 0) (v := f) (show 0 ≤ (f : Int32).toInt ∧ (f : Int32).toInt ≤ 6 from by omega)
  have hfi := fr_i hfi (k := 0) (v := f) (by decide)
  have hP : va_P D vwCl (mW o a t (upd i 0 f) q c d) H := hP
  have hD : va_D A (mW o a t (upd i 0 f) q c d) := hD
  refine lv_aload_n hx hb dX12_meets_5 rfl (lv_at hl 0 rfl) ?_
  refine va_get (D := D) (ci := 12) (v := .ref (a 1)) (C := RX12) (T := TX12) (N := 69) hx hb hts (fun _ h => List.mem_cons_of_mem _ (List.mem_append_right _ h)) hown hK hP 0 rfl rfl 1 (by decide) (hts (.fieldLink RX12 7 "TalePlayModel" "came" "[I") (by decide +kernel)) (fun _ h9 => h9) rfl dX12_meets_6 ?_
  refine lv_iload_n hx hb dX12_meets_9 rfl (lv_at hl 1 rfl) ?_
  refine lv_dup2_11 hx hb dX12_meets_10 rfl rfl ?_
  refine va_iald hx hb hK hP 1 0 rfl rfl (vp_in_iff.mpr (by have h9 : f.toInt = f.toInt := rfl; omega)) dX12_meets_11 ?_
  refine lv_topi (fun x1 ex1 => ?_)
  refine lv_iconst (v := 1) hx hb dX12_meets_12 (by decide) ?_
  refine lv_iadd hx hb dX12_meets_13 ?_
  refine lv_topi (fun x2 ex2 => ?_)
  refine va_iast hx hb hK hP hD hS 1 0 rfl rfl (vp_in_iff.mpr (by have h9 : f.toInt = f.toInt := rfl; omega)) dX12_meets_14 (fun H locs hP hD hS => ?_)
  have hI := mInv_c hI (k := 1) (j := (f : Int32).toNatClampNeg) (x := x2) (show True from trivial)
  have hfc := fr_c hfc (k := 1) (j := (f : Int32).toNatClampNeg) (x := x2) (by decide)
  have hP : va_P D vwCl (mW o a t (upd i 0 f) q (updA c 1 (f : Int32).toNatClampNeg x2) d) H := hP
  have hD : va_D A (mW o a t (upd i 0 f) q (updA c 1 (f : Int32).toNatClampNeg x2) d) := hD
  refine lv_bipush (v := (-3)) hx hb dX12_meets_15 (by decide) ?_
  exact rw_iret ((upd i 0 f), q, (updA c 1 (f : Int32).toNatClampNeg x2), d) hx hb hr hlocks hS (hK.sub (tys' := []) [] rfl) hP hD dX12_meets_17 ⟨rfl, hI, hfi, hfc⟩

def wm_X12_saidMany : List Cond := .code yX12_saidMany cX12_saidMany 3 (some .int) :: (([.fieldLink RX12 202 "TalePlayModel" "sentences" "I", .fieldLink RX12 37 "TalePlayModel" "isSaid" "[Z"] : List Cond) ++ wsX120)
set_option maxHeartbeats 4000000 in
set_option maxRecDepth 100000 in
theorem s_X12_saidMany (l : Launch) (D : va_G) (sz : Nat) (o : Nat) (a : Nat → Nat) (t : Nat → ClassId) (i : Nat → Int32) (q : Int64) (c : Nat → Nat → Int32) (d : Nat → Nat → Int64) (hI : mInv i c) : Met l yX12_saidMany wm_X12_saidMany ({ frames := 0, cells := 0, slots := 0, locals := 0 }) (va_Pc [.ref o] (pA D sz (mW o a t i q c d) (mT t))) (va_Qi (fun (r : Int32) (_ : Unit) => (0 ≤ r.toInt ∧ r.toInt ≤ 200)) oA (ro sz)) 0 0 (ro sz) := by
  refine Met.ofW (cc := cX12_saidMany) (maxL := 3) (ret := (some .int)) (by decide) rfl ?_
  intro p e s m args below meth cd s₁ B hml hv
  obtain ⟨rfl, hsz, hP, hK⟩ := hv
  have hx := B.exec
  have hb := B.bytes
  have hr := B.returns
  have hts := atoms_spec (ws := wm_X12_saidMany) B.pre
  have hown : s.vm.findClass RX12 = some m.cls := findClass_of_methodNamed B.named
  have hlocks := B.notSynchronized
  subst hsz
  have hA : ∀ q : Nat, s.heap.size ≤ q → ro s.heap.size q := fun _ h => h
  have hS : va_S (ro s.heap.size) s.heap s.heap [] := va_S.rf
  have hl := lv_entry ([.ref o]) (n := 3) (Nat.le_of_ble_eq_true rfl)
  rw [lg_entry_eq]
  generalize (lg_sl ([.ref o]) ++ List.replicate (3 - (lg_sl ([.ref o])).length) Slot.unset).toArray = ls at hl ⊢
  have hl : lv_has ls 3 [(0, .ref o)] := hl
  refine lv_iconst (v := 0) hx hb dX12_saidMany_0 (by decide) ?_
  refine lv_istore_n (lv' := [(1, .int 0), (0, .ref o)]) hx hb dX12_saidMany_1 rfl hl (by decide) rfl (fun ls hl => ?_)
  refine lv_iconst (v := 0) hx hb dX12_saidMany_2 (by decide) ?_
  refine lv_istore_n (lv' := [(2, .int 0), (1, .int 0), (0, .ref o)]) hx hb dX12_saidMany_3 rfl hl (by decide) rfl (fun ls hl => ?_)
  have lp1 : ∀ (fu : Nat) (y1_2 : Int32) (y1_1 : Int32), (0 ≤ y1_2.toInt ∧ y1_2.toInt ≤ 200) → (0 ≤ y1_1.toInt ∧ y1_1.toInt ≤ y1_2.toInt) → (200 - y1_2.toInt).toNat < fu → ∀ (H : Heap) (locs : List Loc) (ls : Array Slot), va_P D vwCl (mW o a t i q c d) H → va_S (ro s.heap.size) s.heap H locs → lv_has ls 3 [(2, .int y1_2), (1, .int y1_1), (0, .ref o)] → W p l e (headSpec wm_X12_saidMany ({ frames := 0, cells := 0, slots := 0, locals := 0 })).room s m ([.ref o] : List Value).toArray below meth cd H locs 0 0 (MQ below (va_Qi (fun (r : Int32) (_ : Unit) => (0 ≤ r.toInt ∧ r.toInt ≤ 200)) oA (ro s.heap.size)) ([.ref o] : List Value).toArray s 0 0 (ro s.heap.size)) (F0 m 4 ls []) := by
    intro fu
    induction fu with
    | zero => intro y1_2 y1_1 hy1_2 hy1_1 hm; exact absurd hm (Nat.not_lt_zero _)
    | succ fu ih =>
      intro y1_2 y1_1 hy1_2 hy1_1 hm H locs ls hP hS hl
      refine lv_iload_n hx hb dX12_saidMany_4 rfl (lv_at hl 0 rfl) ?_
      refine lv_aload_n hx hb dX12_saidMany_5 rfl (lv_at hl 2 rfl) ?_
      refine va_get (D := D) (ci := 12) (v := .int (i 8)) (C := RX12) (T := TX12) (N := 69) hx hb hts (fun _ h => List.mem_cons_of_mem _ (List.mem_append_right _ h)) hown hK hP 0 rfl rfl 8 (by decide) (hts (.fieldLink RX12 202 "TalePlayModel" "sentences" "I") (by decide +kernel)) (fun _ h9 => h9) rfl dX12_saidMany_6 ?_
      have rb8_i : 0 ≤ (i 8).toInt ∧ (i 8).toInt ≤ 200 := hI.1 8
      refine lv_icmp_ge (tgt := 35) hx hb dX12_saidMany_9 (by decide) (fun c2 => ?_) (fun c2 => ?_)
      · have f2 := (ti_le (a := (i 8).toInt) (b := y1_2.toInt) rfl rfl).mp c2
        refine lv_iload_n hx hb dX12_saidMany_35 rfl (lv_at hl 1 rfl) ?_
        exact ro_iret hx hb hr hlocks hS dX12_saidMany_36 (show 0 ≤ y1_1.toInt ∧ y1_1.toInt ≤ 200 from by omega)
      · have f2 := mt (ti_le (a := (i 8).toInt) (b := y1_2.toInt) rfl rfl).mpr c2
        refine lv_iload_n hx hb dX12_saidMany_12 rfl (lv_at hl 1 rfl) ?_
        refine lv_aload_n hx hb dX12_saidMany_13 rfl (lv_at hl 2 rfl) ?_
        refine va_get (D := D) (ci := 12) (v := .ref (a 13)) (C := RX12) (T := TX12) (N := 69) hx hb hts (fun _ h => List.mem_cons_of_mem _ (List.mem_append_right _ h)) hown hK hP 0 rfl rfl 13 (by decide) (hts (.fieldLink RX12 37 "TalePlayModel" "isSaid" "[Z") (by decide +kernel)) (fun _ h9 => h9) rfl dX12_saidMany_14 ?_
        refine lv_iload_n hx hb dX12_saidMany_17 rfl (lv_at hl 0 rfl) ?_
        refine va_zald hx hb hK hP 10 9 rfl rfl (vp_in_iff.mpr (by have h9 : y1_2.toInt = y1_2.toInt := rfl; omega)) dX12_saidMany_18 ?_
        refine lv_topi (fun x3 ex3 => ?_)
        have rx3 : 0 ≤ x3.toInt ∧ x3.toInt ≤ 1 := by rw [ex3]; exact hI.2 13 _
        refine lv_if_eq (tgt := 26) hx hb dX12_saidMany_19 (by decide) (fun c4 => ?_) (fun c4 => ?_)
        · have f4 := (ti_eq (a := x3.toInt) (b := 0) rfl (by decide)).mp c4
          refine lv_iconst (v := 0) hx hb dX12_saidMany_26 (by decide) ?_
          refine lv_iadd hx hb dX12_saidMany_27 ?_
          refine lv_topi (fun x5 ex5 => ?_)
          have tx5 := ti_add (a := y1_1.toInt) (b := 0) ex5 rfl (by decide) (by omega) (by omega)
          refine lv_istore_n (lv' := [(1, .int x5), (2, .int y1_2), (0, .ref o)]) hx hb dX12_saidMany_28 rfl hl (by decide) rfl (fun ls hl => ?_)
          obtain ⟨x6, ex6⟩ : ∃ y : Int32, y = y1_2 + 1 := ⟨_, rfl⟩
          have tx6 := ti_add (a := y1_2.toInt) (b := 1) ex6 rfl (by decide) (by omega) (by omega)
          refine lv_iinc (v := x6) (lv' := [(2, .int x6), (1, .int x5), (0, .ref o)]) hx hb dX12_saidMany_29 hl (k := 1) rfl (by rw [ex6]; rfl) (by decide) rfl (fun ls hl => ?_)
          refine lv_goto (tgt := 4) hx hb dX12_saidMany_32 (by decide) ?_
          exact ih x6 x5 (by have h82 : x6.toInt = (y1_2.toInt + 1) := tx6; have h81 : x5.toInt = (y1_1.toInt + 0) := tx5; omega) (by have h82 : x6.toInt = (y1_2.toInt + 1) := tx6; have h81 : x5.toInt = (y1_1.toInt + 0) := tx5; omega) (by have h82 : x6.toInt = (y1_2.toInt + 1) := tx6; have h81 : x5.toInt = (y1_1.toInt + 0) := tx5; omega) _ _ _ hP hS (lv_sub hl [0, 1, 2] rfl)
        · have f4 := mt (ti_eq (a := x3.toInt) (b := 0) rfl (by decide)).mpr c4
          refine lv_iconst (v := 1) hx hb dX12_saidMany_22 (by decide) ?_
          refine lv_goto (tgt := 27) hx hb dX12_saidMany_23 (by decide) ?_
          refine lv_iadd hx hb dX12_saidMany_27 ?_
          refine lv_topi (fun x7 ex7 => ?_)
          have tx7 := ti_add (a := y1_1.toInt) (b := 1) ex7 rfl (by decide) (by omega) (by omega)
          refine lv_istore_n (lv' := [(1, .int x7), (2, .int y1_2), (0, .ref o)]) hx hb dX12_saidMany_28 rfl hl (by decide) rfl (fun ls hl => ?_)
          obtain ⟨x8, ex8⟩ : ∃ y : Int32, y = y1_2 + 1 := ⟨_, rfl⟩
          have tx8 := ti_add (a := y1_2.toInt) (b := 1) ex8 rfl (by decide) (by omega) (by omega)
          refine lv_iinc (v := x8) (lv' := [(2, .int x8), (1, .int x7), (0, .ref o)]) hx hb dX12_saidMany_29 hl (k := 1) rfl (by rw [ex8]; rfl) (by decide) rfl (fun ls hl => ?_)
          refine lv_goto (tgt := 4) hx hb dX12_saidMany_32 (by decide) ?_
          exact ih x8 x7 (by have h82 : x8.toInt = (y1_2.toInt + 1) := tx8; have h81 : x7.toInt = (y1_1.toInt + 1) := tx7; omega) (by have h82 : x8.toInt = (y1_2.toInt + 1) := tx8; have h81 : x7.toInt = (y1_1.toInt + 1) := tx7; omega) (by have h82 : x8.toInt = (y1_2.toInt + 1) := tx8; have h81 : x7.toInt = (y1_1.toInt + 1) := tx7; omega) _ _ _ hP hS (lv_sub hl [0, 1, 2] rfl)
  exact lp1 _ (0 : Int32) (0 : Int32) (by have h82 : (0 : Int32).toInt = 0 := (by decide); have h81 : (0 : Int32).toInt = 0 := (by decide); omega) (by have h82 : (0 : Int32).toInt = 0 := (by decide); have h81 : (0 : Int32).toInt = 0 := (by decide); omega) (Nat.lt_succ_self _) _ _ _ hP hS (lv_sub hl [0, 1, 2] rfl)

def wm_X12_saidSo : List Cond := .code yX12_saidSo cX12_saidSo 6 (some .int) :: (([.fieldLink RX12 202 "TalePlayModel" "sentences" "I", .fieldLink RX12 37 "TalePlayModel" "isSaid" "[Z", .fieldLink RX12 25 "TalePlayModel" "form" "[I", .fieldLink RX12 28 "TalePlayModel" "left" "[I", .fieldLink RX12 31 "TalePlayModel" "middle" "[I", .fieldLink RX12 34 "TalePlayModel" "right" "[I"] : List Cond) ++ wsX120)
set_option maxHeartbeats 4000000 in
set_option maxRecDepth 100000 in
theorem s_X12_saidSo (l : Launch) (D : va_G) (sz : Nat) (o : Nat) (a : Nat → Nat) (t : Nat → ClassId) (i : Nat → Int32) (q : Int64) (c : Nat → Nat → Int32) (d : Nat → Nat → Int64) (f : Int32) (w1 : Int32) (w2 : Int32) (w3 : Int32) (hI : mInv i c) : Met l yX12_saidSo wm_X12_saidSo ({ frames := 0, cells := 0, slots := 0, locals := 0 }) (va_Pc [.ref o, .int f, .int w1, .int w2, .int w3] (pA D sz (mW o a t i q c d) (mT t))) (va_Qi (fun (r : Int32) (_ : Unit) => (r.toInt = -9 ∨ (0 ≤ r.toInt ∧ r.toInt ≤ 199))) oA (ro sz)) 0 0 (ro sz) := by
  refine Met.ofW (cc := cX12_saidSo) (maxL := 6) (ret := (some .int)) (by decide) rfl ?_
  intro p e s m args below meth cd s₁ B hml hv
  obtain ⟨rfl, hsz, hP, hK⟩ := hv
  have hx := B.exec
  have hb := B.bytes
  have hr := B.returns
  have hts := atoms_spec (ws := wm_X12_saidSo) B.pre
  have hown : s.vm.findClass RX12 = some m.cls := findClass_of_methodNamed B.named
  have hlocks := B.notSynchronized
  subst hsz
  have hA : ∀ q : Nat, s.heap.size ≤ q → ro s.heap.size q := fun _ h => h
  have hS : va_S (ro s.heap.size) s.heap s.heap [] := va_S.rf
  have hl := lv_entry ([.ref o, .int f, .int w1, .int w2, .int w3]) (n := 6) (Nat.le_of_ble_eq_true rfl)
  rw [lg_entry_eq]
  generalize (lg_sl ([.ref o, .int f, .int w1, .int w2, .int w3]) ++ List.replicate (6 - (lg_sl ([.ref o, .int f, .int w1, .int w2, .int w3])).length) Slot.unset).toArray = ls at hl ⊢
  have hl : lv_has ls 6 [(0, .ref o), (1, .int f), (2, .int w1), (3, .int w2), (4, .int w3)] := hl
  refine lv_iconst (v := 0) hx hb dX12_saidSo_0 (by decide) ?_
  refine lv_istore (lv' := [(5, .int 0), (0, .ref o), (1, .int f), (2, .int w1), (3, .int w2), (4, .int w3)]) hx hb dX12_saidSo_1 hl (by decide) rfl (fun ls hl => ?_)
  have lp1 : ∀ (fu : Nat) (y1_5 : Int32), (0 ≤ y1_5.toInt ∧ y1_5.toInt ≤ 200) → (200 - y1_5.toInt).toNat < fu → ∀ (H : Heap) (locs : List Loc) (ls : Array Slot), va_P D vwCl (mW o a t i q c d) H → va_S (ro s.heap.size) s.heap H locs → lv_has ls 6 [(5, .int y1_5), (0, .ref o), (1, .int f), (2, .int w1), (3, .int w2), (4, .int w3)] → W p l e (headSpec wm_X12_saidSo ({ frames := 0, cells := 0, slots := 0, locals := 0 })).room s m ([.ref o, .int f, .int w1, .int w2, .int w3] : List Value).toArray below meth cd H locs 0 0 (MQ below (va_Qi (fun (r : Int32) (_ : Unit) => (r.toInt = -9 ∨ (0 ≤ r.toInt ∧ r.toInt ≤ 199))) oA (ro s.heap.size)) ([.ref o, .int f, .int w1, .int w2, .int w3] : List Value).toArray s 0 0 (ro s.heap.size)) (F0 m 3 ls []) := by
    intro fu
    induction fu with
    | zero => intro y1_5 hy1_5 hm; exact absurd hm (Nat.not_lt_zero _)
    | succ fu ih =>
      intro y1_5 hy1_5 hm H locs ls hP hS hl
      refine lv_iload hx hb dX12_saidSo_3 (lv_at hl 0 rfl) ?_
      refine lv_aload_n hx hb dX12_saidSo_5 rfl (lv_at hl 1 rfl) ?_
      refine va_get (D := D) (ci := 12) (v := .int (i 8)) (C := RX12) (T := TX12) (N := 69) hx hb hts (fun _ h => List.mem_cons_of_mem _ (List.mem_append_right _ h)) hown hK hP 0 rfl rfl 8 (by decide) (hts (.fieldLink RX12 202 "TalePlayModel" "sentences" "I") (by decide +kernel)) (fun _ h9 => h9) rfl dX12_saidSo_6 ?_
      have rb8_i : 0 ≤ (i 8).toInt ∧ (i 8).toInt ≤ 200 := hI.1 8
      refine lv_icmp_ge (tgt := 76) hx hb dX12_saidSo_9 (by decide) (fun c2 => ?_) (fun c2 => ?_)
      · have f2 := (ti_le (a := (i 8).toInt) (b := y1_5.toInt) rfl rfl).mp c2
        refine lv_bipush (v := (-9)) hx hb dX12_saidSo_76 (by decide) ?_
        exact ro_iret hx hb hr hlocks hS dX12_saidSo_78 (show ((-9) : Int32).toInt = -9 ∨ (0 ≤ ((-9) : Int32).toInt ∧ ((-9) : Int32).toInt ≤ 199) from by decide)
      · have f2 := mt (ti_le (a := (i 8).toInt) (b := y1_5.toInt) rfl rfl).mpr c2
        refine lv_aload_n hx hb dX12_saidSo_12 rfl (lv_at hl 1 rfl) ?_
        refine va_get (D := D) (ci := 12) (v := .ref (a 13)) (C := RX12) (T := TX12) (N := 69) hx hb hts (fun _ h => List.mem_cons_of_mem _ (List.mem_append_right _ h)) hown hK hP 0 rfl rfl 13 (by decide) (hts (.fieldLink RX12 37 "TalePlayModel" "isSaid" "[Z") (by decide +kernel)) (fun _ h9 => h9) rfl dX12_saidSo_13 ?_
        refine lv_iload hx hb dX12_saidSo_16 (lv_at hl 0 rfl) ?_
        refine va_zald hx hb hK hP 10 9 rfl rfl (vp_in_iff.mpr (by have h9 : y1_5.toInt = y1_5.toInt := rfl; omega)) dX12_saidSo_18 ?_
        refine lv_topi (fun x3 ex3 => ?_)
        have rx3 : 0 ≤ x3.toInt ∧ x3.toInt ≤ 1 := by rw [ex3]; exact hI.2 13 _
        refine lv_if_eq (tgt := 70) hx hb dX12_saidSo_19 (by decide) (fun c4 => ?_) (fun c4 => ?_)
        · have f4 := (ti_eq (a := x3.toInt) (b := 0) rfl (by decide)).mp c4
          obtain ⟨x5, ex5⟩ : ∃ y : Int32, y = y1_5 + 1 := ⟨_, rfl⟩
          have tx5 := ti_add (a := y1_5.toInt) (b := 1) ex5 rfl (by decide) (by omega) (by omega)
          refine lv_iinc (v := x5) (lv' := [(5, .int x5), (0, .ref o), (1, .int f), (2, .int w1), (3, .int w2), (4, .int w3)]) hx hb dX12_saidSo_70 hl (k := 0) rfl (by rw [ex5]; rfl) (by decide) rfl (fun ls hl => ?_)
          refine lv_goto (tgt := 3) hx hb dX12_saidSo_73 (by decide) ?_
          exact ih x5 (by have h85 : x5.toInt = (y1_5.toInt + 1) := tx5; omega) (by have h85 : x5.toInt = (y1_5.toInt + 1) := tx5; omega) _ _ _ hP hS (lv_sub hl [0, 1, 2, 3, 4, 5] rfl)
        · have f4 := mt (ti_eq (a := x3.toInt) (b := 0) rfl (by decide)).mpr c4
          refine lv_aload_n hx hb dX12_saidSo_22 rfl (lv_at hl 1 rfl) ?_
          refine va_get (D := D) (ci := 12) (v := .ref (a 9)) (C := RX12) (T := TX12) (N := 69) hx hb hts (fun _ h => List.mem_cons_of_mem _ (List.mem_append_right _ h)) hown hK hP 0 rfl rfl 9 (by decide) (hts (.fieldLink RX12 25 "TalePlayModel" "form" "[I") (by decide +kernel)) (fun _ h9 => h9) rfl dX12_saidSo_23 ?_
          refine lv_iload hx hb dX12_saidSo_26 (lv_at hl 0 rfl) ?_
          refine va_iald hx hb hK hP 6 5 rfl rfl (vp_in_iff.mpr (by have h9 : y1_5.toInt = y1_5.toInt := rfl; omega)) dX12_saidSo_28 ?_
          refine lv_topi (fun x6 ex6 => ?_)
          have rx6 : 0 ≤ x6.toInt ∧ x6.toInt ≤ 7 := by rw [ex6]; exact hI.2 9 _
          refine lv_iload_n hx hb dX12_saidSo_29 rfl (lv_at hl 2 rfl) ?_
          refine lv_icmp_ne (tgt := 70) hx hb dX12_saidSo_30 (by decide) (fun c7 => ?_) (fun c7 => ?_)
          · have f7 := mt (ti_eq (a := x6.toInt) (b := f.toInt) rfl rfl).mpr c7
            obtain ⟨x8, ex8⟩ : ∃ y : Int32, y = y1_5 + 1 := ⟨_, rfl⟩
            have tx8 := ti_add (a := y1_5.toInt) (b := 1) ex8 rfl (by decide) (by omega) (by omega)
            refine lv_iinc (v := x8) (lv' := [(5, .int x8), (0, .ref o), (1, .int f), (2, .int w1), (3, .int w2), (4, .int w3)]) hx hb dX12_saidSo_70 hl (k := 0) rfl (by rw [ex8]; rfl) (by decide) rfl (fun ls hl => ?_)
            refine lv_goto (tgt := 3) hx hb dX12_saidSo_73 (by decide) ?_
            exact ih x8 (by have h85 : x8.toInt = (y1_5.toInt + 1) := tx8; omega) (by have h85 : x8.toInt = (y1_5.toInt + 1) := tx8; omega) _ _ _ hP hS (lv_sub hl [0, 1, 2, 3, 4, 5] rfl)
          · have f7 := (ti_eq (a := x6.toInt) (b := f.toInt) rfl rfl).mp c7
            refine lv_aload_n hx hb dX12_saidSo_33 rfl (lv_at hl 1 rfl) ?_
            refine va_get (D := D) (ci := 12) (v := .ref (a 10)) (C := RX12) (T := TX12) (N := 69) hx hb hts (fun _ h => List.mem_cons_of_mem _ (List.mem_append_right _ h)) hown hK hP 0 rfl rfl 10 (by decide) (hts (.fieldLink RX12 28 "TalePlayModel" "left" "[I") (by decide +kernel)) (fun _ h9 => h9) rfl dX12_saidSo_34 ?_
            refine lv_iload hx hb dX12_saidSo_37 (lv_at hl 0 rfl) ?_
            refine va_iald hx hb hK hP 7 6 rfl rfl (vp_in_iff.mpr (by have h9 : y1_5.toInt = y1_5.toInt := rfl; omega)) dX12_saidSo_39 ?_
            refine lv_topi (fun x9 ex9 => ?_)
            have rx9 : 0 ≤ x9.toInt ∧ x9.toInt ≤ 29 := by rw [ex9]; exact hI.2 10 _
            refine lv_iload_n hx hb dX12_saidSo_40 rfl (lv_at hl 3 rfl) ?_
            refine lv_icmp_ne (tgt := 70) hx hb dX12_saidSo_41 (by decide) (fun c10 => ?_) (fun c10 => ?_)
            · have f10 := mt (ti_eq (a := x9.toInt) (b := w1.toInt) rfl rfl).mpr c10
              obtain ⟨x11, ex11⟩ : ∃ y : Int32, y = y1_5 + 1 := ⟨_, rfl⟩
              have tx11 := ti_add (a := y1_5.toInt) (b := 1) ex11 rfl (by decide) (by omega) (by omega)
              refine lv_iinc (v := x11) (lv' := [(5, .int x11), (0, .ref o), (1, .int f), (2, .int w1), (3, .int w2), (4, .int w3)]) hx hb dX12_saidSo_70 hl (k := 0) rfl (by rw [ex11]; rfl) (by decide) rfl (fun ls hl => ?_)
              refine lv_goto (tgt := 3) hx hb dX12_saidSo_73 (by decide) ?_
              exact ih x11 (by have h85 : x11.toInt = (y1_5.toInt + 1) := tx11; omega) (by have h85 : x11.toInt = (y1_5.toInt + 1) := tx11; omega) _ _ _ hP hS (lv_sub hl [0, 1, 2, 3, 4, 5] rfl)
            · have f10 := (ti_eq (a := x9.toInt) (b := w1.toInt) rfl rfl).mp c10
              refine lv_aload_n hx hb dX12_saidSo_44 rfl (lv_at hl 1 rfl) ?_
              refine va_get (D := D) (ci := 12) (v := .ref (a 11)) (C := RX12) (T := TX12) (N := 69) hx hb hts (fun _ h => List.mem_cons_of_mem _ (List.mem_append_right _ h)) hown hK hP 0 rfl rfl 11 (by decide) (hts (.fieldLink RX12 31 "TalePlayModel" "middle" "[I") (by decide +kernel)) (fun _ h9 => h9) rfl dX12_saidSo_45 ?_
              refine lv_iload hx hb dX12_saidSo_48 (lv_at hl 0 rfl) ?_
              refine va_iald hx hb hK hP 8 7 rfl rfl (vp_in_iff.mpr (by have h9 : y1_5.toInt = y1_5.toInt := rfl; omega)) dX12_saidSo_50 ?_
              refine lv_topi (fun x12 ex12 => ?_)
              have rx12 : 0 ≤ x12.toInt ∧ x12.toInt ≤ 29 := by rw [ex12]; exact hI.2 11 _
              refine lv_iload_n hx hb dX12_saidSo_51 rfl (lv_at hl 4 rfl) ?_
              refine lv_icmp_ne (tgt := 70) hx hb dX12_saidSo_52 (by decide) (fun c13 => ?_) (fun c13 => ?_)
              · have f13 := mt (ti_eq (a := x12.toInt) (b := w2.toInt) rfl rfl).mpr c13
                obtain ⟨x14, ex14⟩ : ∃ y : Int32, y = y1_5 + 1 := ⟨_, rfl⟩
                have tx14 := ti_add (a := y1_5.toInt) (b := 1) ex14 rfl (by decide) (by omega) (by omega)
                refine lv_iinc (v := x14) (lv' := [(5, .int x14), (0, .ref o), (1, .int f), (2, .int w1), (3, .int w2), (4, .int w3)]) hx hb dX12_saidSo_70 hl (k := 0) rfl (by rw [ex14]; rfl) (by decide) rfl (fun ls hl => ?_)
                refine lv_goto (tgt := 3) hx hb dX12_saidSo_73 (by decide) ?_
                exact ih x14 (by have h85 : x14.toInt = (y1_5.toInt + 1) := tx14; omega) (by have h85 : x14.toInt = (y1_5.toInt + 1) := tx14; omega) _ _ _ hP hS (lv_sub hl [0, 1, 2, 3, 4, 5] rfl)
              · have f13 := (ti_eq (a := x12.toInt) (b := w2.toInt) rfl rfl).mp c13
                refine lv_aload_n hx hb dX12_saidSo_55 rfl (lv_at hl 1 rfl) ?_
                refine va_get (D := D) (ci := 12) (v := .ref (a 12)) (C := RX12) (T := TX12) (N := 69) hx hb hts (fun _ h => List.mem_cons_of_mem _ (List.mem_append_right _ h)) hown hK hP 0 rfl rfl 12 (by decide) (hts (.fieldLink RX12 34 "TalePlayModel" "right" "[I") (by decide +kernel)) (fun _ h9 => h9) rfl dX12_saidSo_56 ?_
                refine lv_iload hx hb dX12_saidSo_59 (lv_at hl 0 rfl) ?_
                refine va_iald hx hb hK hP 9 8 rfl rfl (vp_in_iff.mpr (by have h9 : y1_5.toInt = y1_5.toInt := rfl; omega)) dX12_saidSo_61 ?_
                refine lv_topi (fun x15 ex15 => ?_)
                have rx15 : 0 ≤ x15.toInt ∧ x15.toInt ≤ 9 := by rw [ex15]; exact hI.2 12 _
                refine lv_iload hx hb dX12_saidSo_62 (lv_at hl 5 rfl) ?_
                refine lv_icmp_ne (tgt := 70) hx hb dX12_saidSo_64 (by decide) (fun c16 => ?_) (fun c16 => ?_)
                · have f16 := mt (ti_eq (a := x15.toInt) (b := w3.toInt) rfl rfl).mpr c16
                  obtain ⟨x17, ex17⟩ : ∃ y : Int32, y = y1_5 + 1 := ⟨_, rfl⟩
                  have tx17 := ti_add (a := y1_5.toInt) (b := 1) ex17 rfl (by decide) (by omega) (by omega)
                  refine lv_iinc (v := x17) (lv' := [(5, .int x17), (0, .ref o), (1, .int f), (2, .int w1), (3, .int w2), (4, .int w3)]) hx hb dX12_saidSo_70 hl (k := 0) rfl (by rw [ex17]; rfl) (by decide) rfl (fun ls hl => ?_)
                  refine lv_goto (tgt := 3) hx hb dX12_saidSo_73 (by decide) ?_
                  exact ih x17 (by have h85 : x17.toInt = (y1_5.toInt + 1) := tx17; omega) (by have h85 : x17.toInt = (y1_5.toInt + 1) := tx17; omega) _ _ _ hP hS (lv_sub hl [0, 1, 2, 3, 4, 5] rfl)
                · have f16 := (ti_eq (a := x15.toInt) (b := w3.toInt) rfl rfl).mp c16
                  refine lv_iload hx hb dX12_saidSo_67 (lv_at hl 0 rfl) ?_
                  exact ro_iret hx hb hr hlocks hS dX12_saidSo_69 (show y1_5.toInt = -9 ∨ (0 ≤ y1_5.toInt ∧ y1_5.toInt ≤ 199) from by omega)
  exact lp1 _ (0 : Int32) (by have h85 : (0 : Int32).toInt = 0 := (by decide); omega) (Nat.lt_succ_self _) _ _ _ hP hS (lv_sub hl [0, 1, 2, 3, 4, 5] rfl)

def wm_X12_placing : List Cond := .code yX12_placing cX12_placing 3 (some .int) :: (([.fieldLink RX12 202 "TalePlayModel" "sentences" "I", .fieldLink RX12 37 "TalePlayModel" "isSaid" "[Z", .fieldLink RX12 25 "TalePlayModel" "form" "[I", .fieldLink RX12 28 "TalePlayModel" "left" "[I"] : List Cond) ++ wsX120)
set_option maxHeartbeats 4000000 in
set_option maxRecDepth 100000 in
theorem s_X12_placing (l : Launch) (D : va_G) (sz : Nat) (o : Nat) (a : Nat → Nat) (t : Nat → ClassId) (i : Nat → Int32) (q : Int64) (c : Nat → Nat → Int32) (d : Nat → Nat → Int64) (w : Int32) (hI : mInv i c) : Met l yX12_placing wm_X12_placing ({ frames := 0, cells := 0, slots := 0, locals := 0 }) (va_Pc [.ref o, .int w] (pA D sz (mW o a t i q c d) (mT t))) (va_Qi (fun (r : Int32) (_ : Unit) => (r.toInt = -9 ∨ (0 ≤ r.toInt ∧ r.toInt ≤ 199))) oA (ro sz)) 0 0 (ro sz) := by
  refine Met.ofW (cc := cX12_placing) (maxL := 3) (ret := (some .int)) (by decide) rfl ?_
  intro p e s m args below meth cd s₁ B hml hv
  obtain ⟨rfl, hsz, hP, hK⟩ := hv
  have hx := B.exec
  have hb := B.bytes
  have hr := B.returns
  have hts := atoms_spec (ws := wm_X12_placing) B.pre
  have hown : s.vm.findClass RX12 = some m.cls := findClass_of_methodNamed B.named
  have hlocks := B.notSynchronized
  subst hsz
  have hA : ∀ q : Nat, s.heap.size ≤ q → ro s.heap.size q := fun _ h => h
  have hS : va_S (ro s.heap.size) s.heap s.heap [] := va_S.rf
  have hl := lv_entry ([.ref o, .int w]) (n := 3) (Nat.le_of_ble_eq_true rfl)
  rw [lg_entry_eq]
  generalize (lg_sl ([.ref o, .int w]) ++ List.replicate (3 - (lg_sl ([.ref o, .int w])).length) Slot.unset).toArray = ls at hl ⊢
  have hl : lv_has ls 3 [(0, .ref o), (1, .int w)] := hl
  refine lv_iconst (v := 0) hx hb dX12_placing_0 (by decide) ?_
  refine lv_istore_n (lv' := [(2, .int 0), (0, .ref o), (1, .int w)]) hx hb dX12_placing_1 rfl hl (by decide) rfl (fun ls hl => ?_)
  have lp1 : ∀ (fu : Nat) (y1_2 : Int32), (0 ≤ y1_2.toInt ∧ y1_2.toInt ≤ 200) → (200 - y1_2.toInt).toNat < fu → ∀ (H : Heap) (locs : List Loc) (ls : Array Slot), va_P D vwCl (mW o a t i q c d) H → va_S (ro s.heap.size) s.heap H locs → lv_has ls 3 [(2, .int y1_2), (0, .ref o), (1, .int w)] → W p l e (headSpec wm_X12_placing ({ frames := 0, cells := 0, slots := 0, locals := 0 })).room s m ([.ref o, .int w] : List Value).toArray below meth cd H locs 0 0 (MQ below (va_Qi (fun (r : Int32) (_ : Unit) => (r.toInt = -9 ∨ (0 ≤ r.toInt ∧ r.toInt ≤ 199))) oA (ro s.heap.size)) ([.ref o, .int w] : List Value).toArray s 0 0 (ro s.heap.size)) (F0 m 2 ls []) := by
    intro fu
    induction fu with
    | zero => intro y1_2 hy1_2 hm; exact absurd hm (Nat.not_lt_zero _)
    | succ fu ih =>
      intro y1_2 hy1_2 hm H locs ls hP hS hl
      refine lv_iload_n hx hb dX12_placing_2 rfl (lv_at hl 0 rfl) ?_
      refine lv_aload_n hx hb dX12_placing_3 rfl (lv_at hl 1 rfl) ?_
      refine va_get (D := D) (ci := 12) (v := .int (i 8)) (C := RX12) (T := TX12) (N := 69) hx hb hts (fun _ h => List.mem_cons_of_mem _ (List.mem_append_right _ h)) hown hK hP 0 rfl rfl 8 (by decide) (hts (.fieldLink RX12 202 "TalePlayModel" "sentences" "I") (by decide +kernel)) (fun _ h9 => h9) rfl dX12_placing_4 ?_
      have rb8_i : 0 ≤ (i 8).toInt ∧ (i 8).toInt ≤ 200 := hI.1 8
      refine lv_icmp_ge (tgt := 47) hx hb dX12_placing_7 (by decide) (fun c2 => ?_) (fun c2 => ?_)
      · have f2 := (ti_le (a := (i 8).toInt) (b := y1_2.toInt) rfl rfl).mp c2
        refine lv_bipush (v := (-9)) hx hb dX12_placing_47 (by decide) ?_
        exact ro_iret hx hb hr hlocks hS dX12_placing_49 (show ((-9) : Int32).toInt = -9 ∨ (0 ≤ ((-9) : Int32).toInt ∧ ((-9) : Int32).toInt ≤ 199) from by decide)
      · have f2 := mt (ti_le (a := (i 8).toInt) (b := y1_2.toInt) rfl rfl).mpr c2
        refine lv_aload_n hx hb dX12_placing_10 rfl (lv_at hl 1 rfl) ?_
        refine va_get (D := D) (ci := 12) (v := .ref (a 13)) (C := RX12) (T := TX12) (N := 69) hx hb hts (fun _ h => List.mem_cons_of_mem _ (List.mem_append_right _ h)) hown hK hP 0 rfl rfl 13 (by decide) (hts (.fieldLink RX12 37 "TalePlayModel" "isSaid" "[Z") (by decide +kernel)) (fun _ h9 => h9) rfl dX12_placing_11 ?_
        refine lv_iload_n hx hb dX12_placing_14 rfl (lv_at hl 0 rfl) ?_
        refine va_zald hx hb hK hP 10 9 rfl rfl (vp_in_iff.mpr (by have h9 : y1_2.toInt = y1_2.toInt := rfl; omega)) dX12_placing_15 ?_
        refine lv_topi (fun x3 ex3 => ?_)
        have rx3 : 0 ≤ x3.toInt ∧ x3.toInt ≤ 1 := by rw [ex3]; exact hI.2 13 _
        refine lv_if_eq (tgt := 41) hx hb dX12_placing_16 (by decide) (fun c4 => ?_) (fun c4 => ?_)
        · have f4 := (ti_eq (a := x3.toInt) (b := 0) rfl (by decide)).mp c4
          obtain ⟨x5, ex5⟩ : ∃ y : Int32, y = y1_2 + 1 := ⟨_, rfl⟩
          have tx5 := ti_add (a := y1_2.toInt) (b := 1) ex5 rfl (by decide) (by omega) (by omega)
          refine lv_iinc (v := x5) (lv' := [(2, .int x5), (0, .ref o), (1, .int w)]) hx hb dX12_placing_41 hl (k := 0) rfl (by rw [ex5]; rfl) (by decide) rfl (fun ls hl => ?_)
          refine lv_goto (tgt := 2) hx hb dX12_placing_44 (by decide) ?_
          exact ih x5 (by have h82 : x5.toInt = (y1_2.toInt + 1) := tx5; omega) (by have h82 : x5.toInt = (y1_2.toInt + 1) := tx5; omega) _ _ _ hP hS (lv_sub hl [0, 1, 2] rfl)
        · have f4 := mt (ti_eq (a := x3.toInt) (b := 0) rfl (by decide)).mpr c4
          refine lv_aload_n hx hb dX12_placing_19 rfl (lv_at hl 1 rfl) ?_
          refine va_get (D := D) (ci := 12) (v := .ref (a 9)) (C := RX12) (T := TX12) (N := 69) hx hb hts (fun _ h => List.mem_cons_of_mem _ (List.mem_append_right _ h)) hown hK hP 0 rfl rfl 9 (by decide) (hts (.fieldLink RX12 25 "TalePlayModel" "form" "[I") (by decide +kernel)) (fun _ h9 => h9) rfl dX12_placing_20 ?_
          refine lv_iload_n hx hb dX12_placing_23 rfl (lv_at hl 0 rfl) ?_
          refine va_iald hx hb hK hP 6 5 rfl rfl (vp_in_iff.mpr (by have h9 : y1_2.toInt = y1_2.toInt := rfl; omega)) dX12_placing_24 ?_
          refine lv_topi (fun x6 ex6 => ?_)
          have rx6 : 0 ≤ x6.toInt ∧ x6.toInt ≤ 7 := by rw [ex6]; exact hI.2 9 _
          refine lv_iconst (v := 5) hx hb dX12_placing_25 (by decide) ?_
          refine lv_icmp_ge (tgt := 41) hx hb dX12_placing_26 (by decide) (fun c7 => ?_) (fun c7 => ?_)
          · have f7 := (ti_le (a := 5) (b := x6.toInt) (by decide) rfl).mp c7
            obtain ⟨x8, ex8⟩ : ∃ y : Int32, y = y1_2 + 1 := ⟨_, rfl⟩
            have tx8 := ti_add (a := y1_2.toInt) (b := 1) ex8 rfl (by decide) (by omega) (by omega)
            refine lv_iinc (v := x8) (lv' := [(2, .int x8), (0, .ref o), (1, .int w)]) hx hb dX12_placing_41 hl (k := 0) rfl (by rw [ex8]; rfl) (by decide) rfl (fun ls hl => ?_)
            refine lv_goto (tgt := 2) hx hb dX12_placing_44 (by decide) ?_
            exact ih x8 (by have h82 : x8.toInt = (y1_2.toInt + 1) := tx8; omega) (by have h82 : x8.toInt = (y1_2.toInt + 1) := tx8; omega) _ _ _ hP hS (lv_sub hl [0, 1, 2] rfl)
          · have f7 := mt (ti_le (a := 5) (b := x6.toInt) (by decide) rfl).mpr c7
            refine lv_aload_n hx hb dX12_placing_29 rfl (lv_at hl 1 rfl) ?_
            refine va_get (D := D) (ci := 12) (v := .ref (a 10)) (C := RX12) (T := TX12) (N := 69) hx hb hts (fun _ h => List.mem_cons_of_mem _ (List.mem_append_right _ h)) hown hK hP 0 rfl rfl 10 (by decide) (hts (.fieldLink RX12 28 "TalePlayModel" "left" "[I") (by decide +kernel)) (fun _ h9 => h9) rfl dX12_placing_30 ?_
            refine lv_iload_n hx hb dX12_placing_33 rfl (lv_at hl 0 rfl) ?_
            refine va_iald hx hb hK hP 7 6 rfl rfl (vp_in_iff.mpr (by have h9 : y1_2.toInt = y1_2.toInt := rfl; omega)) dX12_placing_34 ?_
            refine lv_topi (fun x9 ex9 => ?_)
            have rx9 : 0 ≤ x9.toInt ∧ x9.toInt ≤ 29 := by rw [ex9]; exact hI.2 10 _
            refine lv_iload_n hx hb dX12_placing_35 rfl (lv_at hl 2 rfl) ?_
            refine lv_icmp_ne (tgt := 41) hx hb dX12_placing_36 (by decide) (fun c10 => ?_) (fun c10 => ?_)
            · have f10 := mt (ti_eq (a := x9.toInt) (b := w.toInt) rfl rfl).mpr c10
              obtain ⟨x11, ex11⟩ : ∃ y : Int32, y = y1_2 + 1 := ⟨_, rfl⟩
              have tx11 := ti_add (a := y1_2.toInt) (b := 1) ex11 rfl (by decide) (by omega) (by omega)
              refine lv_iinc (v := x11) (lv' := [(2, .int x11), (0, .ref o), (1, .int w)]) hx hb dX12_placing_41 hl (k := 0) rfl (by rw [ex11]; rfl) (by decide) rfl (fun ls hl => ?_)
              refine lv_goto (tgt := 2) hx hb dX12_placing_44 (by decide) ?_
              exact ih x11 (by have h82 : x11.toInt = (y1_2.toInt + 1) := tx11; omega) (by have h82 : x11.toInt = (y1_2.toInt + 1) := tx11; omega) _ _ _ hP hS (lv_sub hl [0, 1, 2] rfl)
            · have f10 := (ti_eq (a := x9.toInt) (b := w.toInt) rfl rfl).mp c10
              refine lv_iload_n hx hb dX12_placing_39 rfl (lv_at hl 0 rfl) ?_
              exact ro_iret hx hb hr hlocks hS dX12_placing_40 (show y1_2.toInt = -9 ∨ (0 ≤ y1_2.toInt ∧ y1_2.toInt ≤ 199) from by omega)
  exact lp1 _ (0 : Int32) (by have h82 : (0 : Int32).toInt = 0 := (by decide); omega) (Nat.lt_succ_self _) _ _ _ hP hS (lv_sub hl [0, 1, 2] rfl)

def wm_X12_keyOf : List Cond := .code yX12_keyOf cX12_keyOf 3 (some .int) :: (([.fieldLink RX12 202 "TalePlayModel" "sentences" "I", .fieldLink RX12 37 "TalePlayModel" "isSaid" "[Z", .fieldLink RX12 25 "TalePlayModel" "form" "[I", .fieldLink RX12 31 "TalePlayModel" "middle" "[I", .fieldLink RX12 28 "TalePlayModel" "left" "[I"] : List Cond) ++ wsX120)
set_option maxHeartbeats 4000000 in
set_option maxRecDepth 100000 in
theorem s_X12_keyOf (l : Launch) (D : va_G) (sz : Nat) (o : Nat) (a : Nat → Nat) (t : Nat → ClassId) (i : Nat → Int32) (q : Int64) (c : Nat → Nat → Int32) (d : Nat → Nat → Int64) (w : Int32) (hI : mInv i c) : Met l yX12_keyOf wm_X12_keyOf ({ frames := 0, cells := 0, slots := 0, locals := 0 }) (va_Pc [.ref o, .int w] (pA D sz (mW o a t i q c d) (mT t))) (va_Qi (fun (r : Int32) (_ : Unit) => (r.toInt = -9 ∨ (0 ≤ r.toInt ∧ r.toInt ≤ 29))) oA (ro sz)) 0 0 (ro sz) := by
  refine Met.ofW (cc := cX12_keyOf) (maxL := 3) (ret := (some .int)) (by decide) rfl ?_
  intro p e s m args below meth cd s₁ B hml hv
  obtain ⟨rfl, hsz, hP, hK⟩ := hv
  have hx := B.exec
  have hb := B.bytes
  have hr := B.returns
  have hts := atoms_spec (ws := wm_X12_keyOf) B.pre
  have hown : s.vm.findClass RX12 = some m.cls := findClass_of_methodNamed B.named
  have hlocks := B.notSynchronized
  subst hsz
  have hA : ∀ q : Nat, s.heap.size ≤ q → ro s.heap.size q := fun _ h => h
  have hS : va_S (ro s.heap.size) s.heap s.heap [] := va_S.rf
  have hl := lv_entry ([.ref o, .int w]) (n := 3) (Nat.le_of_ble_eq_true rfl)
  rw [lg_entry_eq]
  generalize (lg_sl ([.ref o, .int w]) ++ List.replicate (3 - (lg_sl ([.ref o, .int w])).length) Slot.unset).toArray = ls at hl ⊢
  have hl : lv_has ls 3 [(0, .ref o), (1, .int w)] := hl
  refine lv_iconst (v := 0) hx hb dX12_keyOf_0 (by decide) ?_
  refine lv_istore_n (lv' := [(2, .int 0), (0, .ref o), (1, .int w)]) hx hb dX12_keyOf_1 rfl hl (by decide) rfl (fun ls hl => ?_)
  have lp1 : ∀ (fu : Nat) (y1_2 : Int32), (0 ≤ y1_2.toInt ∧ y1_2.toInt ≤ 200) → (200 - y1_2.toInt).toNat < fu → ∀ (H : Heap) (locs : List Loc) (ls : Array Slot), va_P D vwCl (mW o a t i q c d) H → va_S (ro s.heap.size) s.heap H locs → lv_has ls 3 [(2, .int y1_2), (0, .ref o), (1, .int w)] → W p l e (headSpec wm_X12_keyOf ({ frames := 0, cells := 0, slots := 0, locals := 0 })).room s m ([.ref o, .int w] : List Value).toArray below meth cd H locs 0 0 (MQ below (va_Qi (fun (r : Int32) (_ : Unit) => (r.toInt = -9 ∨ (0 ≤ r.toInt ∧ r.toInt ≤ 29))) oA (ro s.heap.size)) ([.ref o, .int w] : List Value).toArray s 0 0 (ro s.heap.size)) (F0 m 2 ls []) := by
    intro fu
    induction fu with
    | zero => intro y1_2 hy1_2 hm; exact absurd hm (Nat.not_lt_zero _)
    | succ fu ih =>
      intro y1_2 hy1_2 hm H locs ls hP hS hl
      refine lv_iload_n hx hb dX12_keyOf_2 rfl (lv_at hl 0 rfl) ?_
      refine lv_aload_n hx hb dX12_keyOf_3 rfl (lv_at hl 1 rfl) ?_
      refine va_get (D := D) (ci := 12) (v := .int (i 8)) (C := RX12) (T := TX12) (N := 69) hx hb hts (fun _ h => List.mem_cons_of_mem _ (List.mem_append_right _ h)) hown hK hP 0 rfl rfl 8 (by decide) (hts (.fieldLink RX12 202 "TalePlayModel" "sentences" "I") (by decide +kernel)) (fun _ h9 => h9) rfl dX12_keyOf_4 ?_
      have rb8_i : 0 ≤ (i 8).toInt ∧ (i 8).toInt ≤ 200 := hI.1 8
      refine lv_icmp_ge (tgt := 53) hx hb dX12_keyOf_7 (by decide) (fun c2 => ?_) (fun c2 => ?_)
      · have f2 := (ti_le (a := (i 8).toInt) (b := y1_2.toInt) rfl rfl).mp c2
        refine lv_bipush (v := (-9)) hx hb dX12_keyOf_53 (by decide) ?_
        exact ro_iret hx hb hr hlocks hS dX12_keyOf_55 (show ((-9) : Int32).toInt = -9 ∨ (0 ≤ ((-9) : Int32).toInt ∧ ((-9) : Int32).toInt ≤ 29) from by decide)
      · have f2 := mt (ti_le (a := (i 8).toInt) (b := y1_2.toInt) rfl rfl).mpr c2
        refine lv_aload_n hx hb dX12_keyOf_10 rfl (lv_at hl 1 rfl) ?_
        refine va_get (D := D) (ci := 12) (v := .ref (a 13)) (C := RX12) (T := TX12) (N := 69) hx hb hts (fun _ h => List.mem_cons_of_mem _ (List.mem_append_right _ h)) hown hK hP 0 rfl rfl 13 (by decide) (hts (.fieldLink RX12 37 "TalePlayModel" "isSaid" "[Z") (by decide +kernel)) (fun _ h9 => h9) rfl dX12_keyOf_11 ?_
        refine lv_iload_n hx hb dX12_keyOf_14 rfl (lv_at hl 0 rfl) ?_
        refine va_zald hx hb hK hP 10 9 rfl rfl (vp_in_iff.mpr (by have h9 : y1_2.toInt = y1_2.toInt := rfl; omega)) dX12_keyOf_15 ?_
        refine lv_topi (fun x3 ex3 => ?_)
        have rx3 : 0 ≤ x3.toInt ∧ x3.toInt ≤ 1 := by rw [ex3]; exact hI.2 13 _
        refine lv_if_eq (tgt := 47) hx hb dX12_keyOf_16 (by decide) (fun c4 => ?_) (fun c4 => ?_)
        · have f4 := (ti_eq (a := x3.toInt) (b := 0) rfl (by decide)).mp c4
          obtain ⟨x5, ex5⟩ : ∃ y : Int32, y = y1_2 + 1 := ⟨_, rfl⟩
          have tx5 := ti_add (a := y1_2.toInt) (b := 1) ex5 rfl (by decide) (by omega) (by omega)
          refine lv_iinc (v := x5) (lv' := [(2, .int x5), (0, .ref o), (1, .int w)]) hx hb dX12_keyOf_47 hl (k := 0) rfl (by rw [ex5]; rfl) (by decide) rfl (fun ls hl => ?_)
          refine lv_goto (tgt := 2) hx hb dX12_keyOf_50 (by decide) ?_
          exact ih x5 (by have h82 : x5.toInt = (y1_2.toInt + 1) := tx5; omega) (by have h82 : x5.toInt = (y1_2.toInt + 1) := tx5; omega) _ _ _ hP hS (lv_sub hl [0, 1, 2] rfl)
        · have f4 := mt (ti_eq (a := x3.toInt) (b := 0) rfl (by decide)).mpr c4
          refine lv_aload_n hx hb dX12_keyOf_19 rfl (lv_at hl 1 rfl) ?_
          refine va_get (D := D) (ci := 12) (v := .ref (a 9)) (C := RX12) (T := TX12) (N := 69) hx hb hts (fun _ h => List.mem_cons_of_mem _ (List.mem_append_right _ h)) hown hK hP 0 rfl rfl 9 (by decide) (hts (.fieldLink RX12 25 "TalePlayModel" "form" "[I") (by decide +kernel)) (fun _ h9 => h9) rfl dX12_keyOf_20 ?_
          refine lv_iload_n hx hb dX12_keyOf_23 rfl (lv_at hl 0 rfl) ?_
          refine va_iald hx hb hK hP 6 5 rfl rfl (vp_in_iff.mpr (by have h9 : y1_2.toInt = y1_2.toInt := rfl; omega)) dX12_keyOf_24 ?_
          refine lv_topi (fun x6 ex6 => ?_)
          have rx6 : 0 ≤ x6.toInt ∧ x6.toInt ≤ 7 := by rw [ex6]; exact hI.2 9 _
          refine lv_bipush (v := 7) hx hb dX12_keyOf_25 (by decide) ?_
          refine lv_icmp_ne (tgt := 47) hx hb dX12_keyOf_27 (by decide) (fun c7 => ?_) (fun c7 => ?_)
          · have f7 := mt (ti_eq (a := x6.toInt) (b := 7) rfl (by decide)).mpr c7
            obtain ⟨x8, ex8⟩ : ∃ y : Int32, y = y1_2 + 1 := ⟨_, rfl⟩
            have tx8 := ti_add (a := y1_2.toInt) (b := 1) ex8 rfl (by decide) (by omega) (by omega)
            refine lv_iinc (v := x8) (lv' := [(2, .int x8), (0, .ref o), (1, .int w)]) hx hb dX12_keyOf_47 hl (k := 0) rfl (by rw [ex8]; rfl) (by decide) rfl (fun ls hl => ?_)
            refine lv_goto (tgt := 2) hx hb dX12_keyOf_50 (by decide) ?_
            exact ih x8 (by have h82 : x8.toInt = (y1_2.toInt + 1) := tx8; omega) (by have h82 : x8.toInt = (y1_2.toInt + 1) := tx8; omega) _ _ _ hP hS (lv_sub hl [0, 1, 2] rfl)
          · have f7 := (ti_eq (a := x6.toInt) (b := 7) rfl (by decide)).mp c7
            refine lv_aload_n hx hb dX12_keyOf_30 rfl (lv_at hl 1 rfl) ?_
            refine va_get (D := D) (ci := 12) (v := .ref (a 11)) (C := RX12) (T := TX12) (N := 69) hx hb hts (fun _ h => List.mem_cons_of_mem _ (List.mem_append_right _ h)) hown hK hP 0 rfl rfl 11 (by decide) (hts (.fieldLink RX12 31 "TalePlayModel" "middle" "[I") (by decide +kernel)) (fun _ h9 => h9) rfl dX12_keyOf_31 ?_
            refine lv_iload_n hx hb dX12_keyOf_34 rfl (lv_at hl 0 rfl) ?_
            refine va_iald hx hb hK hP 8 7 rfl rfl (vp_in_iff.mpr (by have h9 : y1_2.toInt = y1_2.toInt := rfl; omega)) dX12_keyOf_35 ?_
            refine lv_topi (fun x9 ex9 => ?_)
            have rx9 : 0 ≤ x9.toInt ∧ x9.toInt ≤ 29 := by rw [ex9]; exact hI.2 11 _
            refine lv_iload_n hx hb dX12_keyOf_36 rfl (lv_at hl 2 rfl) ?_
            refine lv_icmp_ne (tgt := 47) hx hb dX12_keyOf_37 (by decide) (fun c10 => ?_) (fun c10 => ?_)
            · have f10 := mt (ti_eq (a := x9.toInt) (b := w.toInt) rfl rfl).mpr c10
              obtain ⟨x11, ex11⟩ : ∃ y : Int32, y = y1_2 + 1 := ⟨_, rfl⟩
              have tx11 := ti_add (a := y1_2.toInt) (b := 1) ex11 rfl (by decide) (by omega) (by omega)
              refine lv_iinc (v := x11) (lv' := [(2, .int x11), (0, .ref o), (1, .int w)]) hx hb dX12_keyOf_47 hl (k := 0) rfl (by rw [ex11]; rfl) (by decide) rfl (fun ls hl => ?_)
              refine lv_goto (tgt := 2) hx hb dX12_keyOf_50 (by decide) ?_
              exact ih x11 (by have h82 : x11.toInt = (y1_2.toInt + 1) := tx11; omega) (by have h82 : x11.toInt = (y1_2.toInt + 1) := tx11; omega) _ _ _ hP hS (lv_sub hl [0, 1, 2] rfl)
            · have f10 := (ti_eq (a := x9.toInt) (b := w.toInt) rfl rfl).mp c10
              refine lv_aload_n hx hb dX12_keyOf_40 rfl (lv_at hl 1 rfl) ?_
              refine va_get (D := D) (ci := 12) (v := .ref (a 10)) (C := RX12) (T := TX12) (N := 69) hx hb hts (fun _ h => List.mem_cons_of_mem _ (List.mem_append_right _ h)) hown hK hP 0 rfl rfl 10 (by decide) (hts (.fieldLink RX12 28 "TalePlayModel" "left" "[I") (by decide +kernel)) (fun _ h9 => h9) rfl dX12_keyOf_41 ?_
              refine lv_iload_n hx hb dX12_keyOf_44 rfl (lv_at hl 0 rfl) ?_
              refine va_iald hx hb hK hP 7 6 rfl rfl (vp_in_iff.mpr (by have h9 : y1_2.toInt = y1_2.toInt := rfl; omega)) dX12_keyOf_45 ?_
              refine lv_topi (fun x12 ex12 => ?_)
              have rx12 : 0 ≤ x12.toInt ∧ x12.toInt ≤ 29 := by rw [ex12]; exact hI.2 10 _
              exact ro_iret hx hb hr hlocks hS dX12_keyOf_46 (show x12.toInt = -9 ∨ (0 ≤ x12.toInt ∧ x12.toInt ≤ 29) from by omega)
  exact lp1 _ (0 : Int32) (by have h82 : (0 : Int32).toInt = 0 := (by decide); omega) (Nat.lt_succ_self _) _ _ _ hP hS (lv_sub hl [0, 1, 2] rfl)

def wm_X12_isSide : List Cond := .code yX12_isSide cX12_isSide 4 (some .boolean) :: (([.fieldLink RX12 202 "TalePlayModel" "sentences" "I", .fieldLink RX12 37 "TalePlayModel" "isSaid" "[Z", .fieldLink RX12 25 "TalePlayModel" "form" "[I", .fieldLink RX12 31 "TalePlayModel" "middle" "[I", .fieldLink RX12 28 "TalePlayModel" "left" "[I"] : List Cond) ++ wsX120)
set_option maxHeartbeats 4000000 in
set_option maxRecDepth 100000 in
theorem s_X12_isSide (l : Launch) (D : va_G) (sz : Nat) (o : Nat) (a : Nat → Nat) (t : Nat → ClassId) (i : Nat → Int32) (q : Int64) (c : Nat → Nat → Int32) (d : Nat → Nat → Int64) (w : Int32) (r1 : Int32) (hI : mInv i c) : Met l yX12_isSide wm_X12_isSide ({ frames := 0, cells := 0, slots := 0, locals := 0 }) (va_Pc [.ref o, .int w, .int r1] (pA D sz (mW o a t i q c d) (mT t))) (va_Qi (fun (r : Int32) (_ : Unit) => (0 ≤ r.toInt ∧ r.toInt ≤ 1)) oA (ro sz)) 0 0 (ro sz) := by
  refine Met.ofW (cc := cX12_isSide) (maxL := 4) (ret := (some .boolean)) (by decide) rfl ?_
  intro p e s m args below meth cd s₁ B hml hv
  obtain ⟨rfl, hsz, hP, hK⟩ := hv
  have hx := B.exec
  have hb := B.bytes
  have hr := B.returns
  have hts := atoms_spec (ws := wm_X12_isSide) B.pre
  have hown : s.vm.findClass RX12 = some m.cls := findClass_of_methodNamed B.named
  have hlocks := B.notSynchronized
  subst hsz
  have hA : ∀ q : Nat, s.heap.size ≤ q → ro s.heap.size q := fun _ h => h
  have hS : va_S (ro s.heap.size) s.heap s.heap [] := va_S.rf
  have hl := lv_entry ([.ref o, .int w, .int r1]) (n := 4) (Nat.le_of_ble_eq_true rfl)
  rw [lg_entry_eq]
  generalize (lg_sl ([.ref o, .int w, .int r1]) ++ List.replicate (4 - (lg_sl ([.ref o, .int w, .int r1])).length) Slot.unset).toArray = ls at hl ⊢
  have hl : lv_has ls 4 [(0, .ref o), (1, .int w), (2, .int r1)] := hl
  refine lv_iconst (v := 0) hx hb dX12_isSide_0 (by decide) ?_
  refine lv_istore_n (lv' := [(3, .int 0), (0, .ref o), (1, .int w), (2, .int r1)]) hx hb dX12_isSide_1 rfl hl (by decide) rfl (fun ls hl => ?_)
  have lp1 : ∀ (fu : Nat) (y1_3 : Int32), (0 ≤ y1_3.toInt ∧ y1_3.toInt ≤ 200) → (200 - y1_3.toInt).toNat < fu → ∀ (H : Heap) (locs : List Loc) (ls : Array Slot), va_P D vwCl (mW o a t i q c d) H → va_S (ro s.heap.size) s.heap H locs → lv_has ls 4 [(3, .int y1_3), (0, .ref o), (1, .int w), (2, .int r1)] → W p l e (headSpec wm_X12_isSide ({ frames := 0, cells := 0, slots := 0, locals := 0 })).room s m ([.ref o, .int w, .int r1] : List Value).toArray below meth cd H locs 0 0 (MQ below (va_Qi (fun (r : Int32) (_ : Unit) => (0 ≤ r.toInt ∧ r.toInt ≤ 1)) oA (ro s.heap.size)) ([.ref o, .int w, .int r1] : List Value).toArray s 0 0 (ro s.heap.size)) (F0 m 2 ls []) := by
    intro fu
    induction fu with
    | zero => intro y1_3 hy1_3 hm; exact absurd hm (Nat.not_lt_zero _)
    | succ fu ih =>
      intro y1_3 hy1_3 hm H locs ls hP hS hl
      refine lv_iload_n hx hb dX12_isSide_2 rfl (lv_at hl 0 rfl) ?_
      refine lv_aload_n hx hb dX12_isSide_3 rfl (lv_at hl 1 rfl) ?_
      refine va_get (D := D) (ci := 12) (v := .int (i 8)) (C := RX12) (T := TX12) (N := 69) hx hb hts (fun _ h => List.mem_cons_of_mem _ (List.mem_append_right _ h)) hown hK hP 0 rfl rfl 8 (by decide) (hts (.fieldLink RX12 202 "TalePlayModel" "sentences" "I") (by decide +kernel)) (fun _ h9 => h9) rfl dX12_isSide_4 ?_
      have rb8_i : 0 ≤ (i 8).toInt ∧ (i 8).toInt ≤ 200 := hI.1 8
      refine lv_icmp_ge (tgt := 57) hx hb dX12_isSide_7 (by decide) (fun c2 => ?_) (fun c2 => ?_)
      · have f2 := (ti_le (a := (i 8).toInt) (b := y1_3.toInt) rfl rfl).mp c2
        refine lv_iconst (v := 0) hx hb dX12_isSide_57 (by decide) ?_
        exact ro_zret hx hb hr hlocks hS rfl dX12_isSide_58 (show 0 ≤ (0 : Int32).toInt ∧ (0 : Int32).toInt ≤ 1 from by decide)
      · have f2 := mt (ti_le (a := (i 8).toInt) (b := y1_3.toInt) rfl rfl).mpr c2
        refine lv_aload_n hx hb dX12_isSide_10 rfl (lv_at hl 1 rfl) ?_
        refine va_get (D := D) (ci := 12) (v := .ref (a 13)) (C := RX12) (T := TX12) (N := 69) hx hb hts (fun _ h => List.mem_cons_of_mem _ (List.mem_append_right _ h)) hown hK hP 0 rfl rfl 13 (by decide) (hts (.fieldLink RX12 37 "TalePlayModel" "isSaid" "[Z") (by decide +kernel)) (fun _ h9 => h9) rfl dX12_isSide_11 ?_
        refine lv_iload_n hx hb dX12_isSide_14 rfl (lv_at hl 0 rfl) ?_
        refine va_zald hx hb hK hP 10 9 rfl rfl (vp_in_iff.mpr (by have h9 : y1_3.toInt = y1_3.toInt := rfl; omega)) dX12_isSide_15 ?_
        refine lv_topi (fun x3 ex3 => ?_)
        have rx3 : 0 ≤ x3.toInt ∧ x3.toInt ≤ 1 := by rw [ex3]; exact hI.2 13 _
        refine lv_if_eq (tgt := 51) hx hb dX12_isSide_16 (by decide) (fun c4 => ?_) (fun c4 => ?_)
        · have f4 := (ti_eq (a := x3.toInt) (b := 0) rfl (by decide)).mp c4
          obtain ⟨x5, ex5⟩ : ∃ y : Int32, y = y1_3 + 1 := ⟨_, rfl⟩
          have tx5 := ti_add (a := y1_3.toInt) (b := 1) ex5 rfl (by decide) (by omega) (by omega)
          refine lv_iinc (v := x5) (lv' := [(3, .int x5), (0, .ref o), (1, .int w), (2, .int r1)]) hx hb dX12_isSide_51 hl (k := 0) rfl (by rw [ex5]; rfl) (by decide) rfl (fun ls hl => ?_)
          refine lv_goto (tgt := 2) hx hb dX12_isSide_54 (by decide) ?_
          exact ih x5 (by have h83 : x5.toInt = (y1_3.toInt + 1) := tx5; omega) (by have h83 : x5.toInt = (y1_3.toInt + 1) := tx5; omega) _ _ _ hP hS (lv_sub hl [0, 1, 2, 3] rfl)
        · have f4 := mt (ti_eq (a := x3.toInt) (b := 0) rfl (by decide)).mpr c4
          refine lv_aload_n hx hb dX12_isSide_19 rfl (lv_at hl 1 rfl) ?_
          refine va_get (D := D) (ci := 12) (v := .ref (a 9)) (C := RX12) (T := TX12) (N := 69) hx hb hts (fun _ h => List.mem_cons_of_mem _ (List.mem_append_right _ h)) hown hK hP 0 rfl rfl 9 (by decide) (hts (.fieldLink RX12 25 "TalePlayModel" "form" "[I") (by decide +kernel)) (fun _ h9 => h9) rfl dX12_isSide_20 ?_
          refine lv_iload_n hx hb dX12_isSide_23 rfl (lv_at hl 0 rfl) ?_
          refine va_iald hx hb hK hP 6 5 rfl rfl (vp_in_iff.mpr (by have h9 : y1_3.toInt = y1_3.toInt := rfl; omega)) dX12_isSide_24 ?_
          refine lv_topi (fun x6 ex6 => ?_)
          have rx6 : 0 ≤ x6.toInt ∧ x6.toInt ≤ 7 := by rw [ex6]; exact hI.2 9 _
          refine lv_iconst (v := 5) hx hb dX12_isSide_25 (by decide) ?_
          refine lv_icmp_ne (tgt := 51) hx hb dX12_isSide_26 (by decide) (fun c7 => ?_) (fun c7 => ?_)
          · have f7 := mt (ti_eq (a := x6.toInt) (b := 5) rfl (by decide)).mpr c7
            obtain ⟨x8, ex8⟩ : ∃ y : Int32, y = y1_3 + 1 := ⟨_, rfl⟩
            have tx8 := ti_add (a := y1_3.toInt) (b := 1) ex8 rfl (by decide) (by omega) (by omega)
            refine lv_iinc (v := x8) (lv' := [(3, .int x8), (0, .ref o), (1, .int w), (2, .int r1)]) hx hb dX12_isSide_51 hl (k := 0) rfl (by rw [ex8]; rfl) (by decide) rfl (fun ls hl => ?_)
            refine lv_goto (tgt := 2) hx hb dX12_isSide_54 (by decide) ?_
            exact ih x8 (by have h83 : x8.toInt = (y1_3.toInt + 1) := tx8; omega) (by have h83 : x8.toInt = (y1_3.toInt + 1) := tx8; omega) _ _ _ hP hS (lv_sub hl [0, 1, 2, 3] rfl)
          · have f7 := (ti_eq (a := x6.toInt) (b := 5) rfl (by decide)).mp c7
            refine lv_aload_n hx hb dX12_isSide_29 rfl (lv_at hl 1 rfl) ?_
            refine va_get (D := D) (ci := 12) (v := .ref (a 11)) (C := RX12) (T := TX12) (N := 69) hx hb hts (fun _ h => List.mem_cons_of_mem _ (List.mem_append_right _ h)) hown hK hP 0 rfl rfl 11 (by decide) (hts (.fieldLink RX12 31 "TalePlayModel" "middle" "[I") (by decide +kernel)) (fun _ h9 => h9) rfl dX12_isSide_30 ?_
            refine lv_iload_n hx hb dX12_isSide_33 rfl (lv_at hl 0 rfl) ?_
            refine va_iald hx hb hK hP 8 7 rfl rfl (vp_in_iff.mpr (by have h9 : y1_3.toInt = y1_3.toInt := rfl; omega)) dX12_isSide_34 ?_
            refine lv_topi (fun x9 ex9 => ?_)
            have rx9 : 0 ≤ x9.toInt ∧ x9.toInt ≤ 29 := by rw [ex9]; exact hI.2 11 _
            refine lv_iload_n hx hb dX12_isSide_35 rfl (lv_at hl 2 rfl) ?_
            refine lv_icmp_ne (tgt := 51) hx hb dX12_isSide_36 (by decide) (fun c10 => ?_) (fun c10 => ?_)
            · have f10 := mt (ti_eq (a := x9.toInt) (b := w.toInt) rfl rfl).mpr c10
              obtain ⟨x11, ex11⟩ : ∃ y : Int32, y = y1_3 + 1 := ⟨_, rfl⟩
              have tx11 := ti_add (a := y1_3.toInt) (b := 1) ex11 rfl (by decide) (by omega) (by omega)
              refine lv_iinc (v := x11) (lv' := [(3, .int x11), (0, .ref o), (1, .int w), (2, .int r1)]) hx hb dX12_isSide_51 hl (k := 0) rfl (by rw [ex11]; rfl) (by decide) rfl (fun ls hl => ?_)
              refine lv_goto (tgt := 2) hx hb dX12_isSide_54 (by decide) ?_
              exact ih x11 (by have h83 : x11.toInt = (y1_3.toInt + 1) := tx11; omega) (by have h83 : x11.toInt = (y1_3.toInt + 1) := tx11; omega) _ _ _ hP hS (lv_sub hl [0, 1, 2, 3] rfl)
            · have f10 := (ti_eq (a := x9.toInt) (b := w.toInt) rfl rfl).mp c10
              refine lv_aload_n hx hb dX12_isSide_39 rfl (lv_at hl 1 rfl) ?_
              refine va_get (D := D) (ci := 12) (v := .ref (a 10)) (C := RX12) (T := TX12) (N := 69) hx hb hts (fun _ h => List.mem_cons_of_mem _ (List.mem_append_right _ h)) hown hK hP 0 rfl rfl 10 (by decide) (hts (.fieldLink RX12 28 "TalePlayModel" "left" "[I") (by decide +kernel)) (fun _ h9 => h9) rfl dX12_isSide_40 ?_
              refine lv_iload_n hx hb dX12_isSide_43 rfl (lv_at hl 0 rfl) ?_
              refine va_iald hx hb hK hP 7 6 rfl rfl (vp_in_iff.mpr (by have h9 : y1_3.toInt = y1_3.toInt := rfl; omega)) dX12_isSide_44 ?_
              refine lv_topi (fun x12 ex12 => ?_)
              have rx12 : 0 ≤ x12.toInt ∧ x12.toInt ≤ 29 := by rw [ex12]; exact hI.2 10 _
              refine lv_iload_n hx hb dX12_isSide_45 rfl (lv_at hl 3 rfl) ?_
              refine lv_icmp_ne (tgt := 51) hx hb dX12_isSide_46 (by decide) (fun c13 => ?_) (fun c13 => ?_)
              · have f13 := mt (ti_eq (a := x12.toInt) (b := r1.toInt) rfl rfl).mpr c13
                obtain ⟨x14, ex14⟩ : ∃ y : Int32, y = y1_3 + 1 := ⟨_, rfl⟩
                have tx14 := ti_add (a := y1_3.toInt) (b := 1) ex14 rfl (by decide) (by omega) (by omega)
                refine lv_iinc (v := x14) (lv' := [(3, .int x14), (0, .ref o), (1, .int w), (2, .int r1)]) hx hb dX12_isSide_51 hl (k := 0) rfl (by rw [ex14]; rfl) (by decide) rfl (fun ls hl => ?_)
                refine lv_goto (tgt := 2) hx hb dX12_isSide_54 (by decide) ?_
                exact ih x14 (by have h83 : x14.toInt = (y1_3.toInt + 1) := tx14; omega) (by have h83 : x14.toInt = (y1_3.toInt + 1) := tx14; omega) _ _ _ hP hS (lv_sub hl [0, 1, 2, 3] rfl)
              · have f13 := (ti_eq (a := x12.toInt) (b := r1.toInt) rfl rfl).mp c13
                refine lv_iconst (v := 1) hx hb dX12_isSide_49 (by decide) ?_
                exact ro_zret hx hb hr hlocks hS rfl dX12_isSide_50 (show 0 ≤ (1 : Int32).toInt ∧ (1 : Int32).toInt ≤ 1 from by decide)
  exact lp1 _ (0 : Int32) (by have h83 : (0 : Int32).toInt = 0 := (by decide); omega) (Nat.lt_succ_self _) _ _ _ hP hS (lv_sub hl [0, 1, 2, 3] rfl)

def wm_X12_otherSide : List Cond := .code yX12_otherSide cX12_otherSide 4 (some .int) :: (([.fieldLink RX12 202 "TalePlayModel" "sentences" "I", .fieldLink RX12 37 "TalePlayModel" "isSaid" "[Z", .fieldLink RX12 25 "TalePlayModel" "form" "[I", .fieldLink RX12 31 "TalePlayModel" "middle" "[I", .fieldLink RX12 28 "TalePlayModel" "left" "[I"] : List Cond) ++ wsX120)
set_option maxHeartbeats 4000000 in
set_option maxRecDepth 100000 in
theorem s_X12_otherSide (l : Launch) (D : va_G) (sz : Nat) (o : Nat) (a : Nat → Nat) (t : Nat → ClassId) (i : Nat → Int32) (q : Int64) (c : Nat → Nat → Int32) (d : Nat → Nat → Int64) (w : Int32) (r1 : Int32) (hI : mInv i c) : Met l yX12_otherSide wm_X12_otherSide ({ frames := 0, cells := 0, slots := 0, locals := 0 }) (va_Pc [.ref o, .int w, .int r1] (pA D sz (mW o a t i q c d) (mT t))) (va_Qi (fun (r : Int32) (_ : Unit) => (r.toInt = -9 ∨ (0 ≤ r.toInt ∧ r.toInt ≤ 29))) oA (ro sz)) 0 0 (ro sz) := by
  refine Met.ofW (cc := cX12_otherSide) (maxL := 4) (ret := (some .int)) (by decide) rfl ?_
  intro p e s m args below meth cd s₁ B hml hv
  obtain ⟨rfl, hsz, hP, hK⟩ := hv
  have hx := B.exec
  have hb := B.bytes
  have hr := B.returns
  have hts := atoms_spec (ws := wm_X12_otherSide) B.pre
  have hown : s.vm.findClass RX12 = some m.cls := findClass_of_methodNamed B.named
  have hlocks := B.notSynchronized
  subst hsz
  have hA : ∀ q : Nat, s.heap.size ≤ q → ro s.heap.size q := fun _ h => h
  have hS : va_S (ro s.heap.size) s.heap s.heap [] := va_S.rf
  have hl := lv_entry ([.ref o, .int w, .int r1]) (n := 4) (Nat.le_of_ble_eq_true rfl)
  rw [lg_entry_eq]
  generalize (lg_sl ([.ref o, .int w, .int r1]) ++ List.replicate (4 - (lg_sl ([.ref o, .int w, .int r1])).length) Slot.unset).toArray = ls at hl ⊢
  have hl : lv_has ls 4 [(0, .ref o), (1, .int w), (2, .int r1)] := hl
  refine lv_iconst (v := 0) hx hb dX12_otherSide_0 (by decide) ?_
  refine lv_istore_n (lv' := [(3, .int 0), (0, .ref o), (1, .int w), (2, .int r1)]) hx hb dX12_otherSide_1 rfl hl (by decide) rfl (fun ls hl => ?_)
  have lp1 : ∀ (fu : Nat) (y1_3 : Int32), (0 ≤ y1_3.toInt ∧ y1_3.toInt ≤ 200) → (200 - y1_3.toInt).toNat < fu → ∀ (H : Heap) (locs : List Loc) (ls : Array Slot), va_P D vwCl (mW o a t i q c d) H → va_S (ro s.heap.size) s.heap H locs → lv_has ls 4 [(3, .int y1_3), (0, .ref o), (1, .int w), (2, .int r1)] → W p l e (headSpec wm_X12_otherSide ({ frames := 0, cells := 0, slots := 0, locals := 0 })).room s m ([.ref o, .int w, .int r1] : List Value).toArray below meth cd H locs 0 0 (MQ below (va_Qi (fun (r : Int32) (_ : Unit) => (r.toInt = -9 ∨ (0 ≤ r.toInt ∧ r.toInt ≤ 29))) oA (ro s.heap.size)) ([.ref o, .int w, .int r1] : List Value).toArray s 0 0 (ro s.heap.size)) (F0 m 2 ls []) := by
    intro fu
    induction fu with
    | zero => intro y1_3 hy1_3 hm; exact absurd hm (Nat.not_lt_zero _)
    | succ fu ih =>
      intro y1_3 hy1_3 hm H locs ls hP hS hl
      refine lv_iload_n hx hb dX12_otherSide_2 rfl (lv_at hl 0 rfl) ?_
      refine lv_aload_n hx hb dX12_otherSide_3 rfl (lv_at hl 1 rfl) ?_
      refine va_get (D := D) (ci := 12) (v := .int (i 8)) (C := RX12) (T := TX12) (N := 69) hx hb hts (fun _ h => List.mem_cons_of_mem _ (List.mem_append_right _ h)) hown hK hP 0 rfl rfl 8 (by decide) (hts (.fieldLink RX12 202 "TalePlayModel" "sentences" "I") (by decide +kernel)) (fun _ h9 => h9) rfl dX12_otherSide_4 ?_
      have rb8_i : 0 ≤ (i 8).toInt ∧ (i 8).toInt ≤ 200 := hI.1 8
      refine lv_icmp_ge (tgt := 62) hx hb dX12_otherSide_7 (by decide) (fun c2 => ?_) (fun c2 => ?_)
      · have f2 := (ti_le (a := (i 8).toInt) (b := y1_3.toInt) rfl rfl).mp c2
        refine lv_bipush (v := (-9)) hx hb dX12_otherSide_62 (by decide) ?_
        exact ro_iret hx hb hr hlocks hS dX12_otherSide_64 (show ((-9) : Int32).toInt = -9 ∨ (0 ≤ ((-9) : Int32).toInt ∧ ((-9) : Int32).toInt ≤ 29) from by decide)
      · have f2 := mt (ti_le (a := (i 8).toInt) (b := y1_3.toInt) rfl rfl).mpr c2
        refine lv_aload_n hx hb dX12_otherSide_10 rfl (lv_at hl 1 rfl) ?_
        refine va_get (D := D) (ci := 12) (v := .ref (a 13)) (C := RX12) (T := TX12) (N := 69) hx hb hts (fun _ h => List.mem_cons_of_mem _ (List.mem_append_right _ h)) hown hK hP 0 rfl rfl 13 (by decide) (hts (.fieldLink RX12 37 "TalePlayModel" "isSaid" "[Z") (by decide +kernel)) (fun _ h9 => h9) rfl dX12_otherSide_11 ?_
        refine lv_iload_n hx hb dX12_otherSide_14 rfl (lv_at hl 0 rfl) ?_
        refine va_zald hx hb hK hP 10 9 rfl rfl (vp_in_iff.mpr (by have h9 : y1_3.toInt = y1_3.toInt := rfl; omega)) dX12_otherSide_15 ?_
        refine lv_topi (fun x3 ex3 => ?_)
        have rx3 : 0 ≤ x3.toInt ∧ x3.toInt ≤ 1 := by rw [ex3]; exact hI.2 13 _
        refine lv_if_eq (tgt := 56) hx hb dX12_otherSide_16 (by decide) (fun c4 => ?_) (fun c4 => ?_)
        · have f4 := (ti_eq (a := x3.toInt) (b := 0) rfl (by decide)).mp c4
          obtain ⟨x5, ex5⟩ : ∃ y : Int32, y = y1_3 + 1 := ⟨_, rfl⟩
          have tx5 := ti_add (a := y1_3.toInt) (b := 1) ex5 rfl (by decide) (by omega) (by omega)
          refine lv_iinc (v := x5) (lv' := [(3, .int x5), (0, .ref o), (1, .int w), (2, .int r1)]) hx hb dX12_otherSide_56 hl (k := 0) rfl (by rw [ex5]; rfl) (by decide) rfl (fun ls hl => ?_)
          refine lv_goto (tgt := 2) hx hb dX12_otherSide_59 (by decide) ?_
          exact ih x5 (by have h83 : x5.toInt = (y1_3.toInt + 1) := tx5; omega) (by have h83 : x5.toInt = (y1_3.toInt + 1) := tx5; omega) _ _ _ hP hS (lv_sub hl [0, 1, 2, 3] rfl)
        · have f4 := mt (ti_eq (a := x3.toInt) (b := 0) rfl (by decide)).mpr c4
          refine lv_aload_n hx hb dX12_otherSide_19 rfl (lv_at hl 1 rfl) ?_
          refine va_get (D := D) (ci := 12) (v := .ref (a 9)) (C := RX12) (T := TX12) (N := 69) hx hb hts (fun _ h => List.mem_cons_of_mem _ (List.mem_append_right _ h)) hown hK hP 0 rfl rfl 9 (by decide) (hts (.fieldLink RX12 25 "TalePlayModel" "form" "[I") (by decide +kernel)) (fun _ h9 => h9) rfl dX12_otherSide_20 ?_
          refine lv_iload_n hx hb dX12_otherSide_23 rfl (lv_at hl 0 rfl) ?_
          refine va_iald hx hb hK hP 6 5 rfl rfl (vp_in_iff.mpr (by have h9 : y1_3.toInt = y1_3.toInt := rfl; omega)) dX12_otherSide_24 ?_
          refine lv_topi (fun x6 ex6 => ?_)
          have rx6 : 0 ≤ x6.toInt ∧ x6.toInt ≤ 7 := by rw [ex6]; exact hI.2 9 _
          refine lv_iconst (v := 5) hx hb dX12_otherSide_25 (by decide) ?_
          refine lv_icmp_ne (tgt := 56) hx hb dX12_otherSide_26 (by decide) (fun c7 => ?_) (fun c7 => ?_)
          · have f7 := mt (ti_eq (a := x6.toInt) (b := 5) rfl (by decide)).mpr c7
            obtain ⟨x8, ex8⟩ : ∃ y : Int32, y = y1_3 + 1 := ⟨_, rfl⟩
            have tx8 := ti_add (a := y1_3.toInt) (b := 1) ex8 rfl (by decide) (by omega) (by omega)
            refine lv_iinc (v := x8) (lv' := [(3, .int x8), (0, .ref o), (1, .int w), (2, .int r1)]) hx hb dX12_otherSide_56 hl (k := 0) rfl (by rw [ex8]; rfl) (by decide) rfl (fun ls hl => ?_)
            refine lv_goto (tgt := 2) hx hb dX12_otherSide_59 (by decide) ?_
            exact ih x8 (by have h83 : x8.toInt = (y1_3.toInt + 1) := tx8; omega) (by have h83 : x8.toInt = (y1_3.toInt + 1) := tx8; omega) _ _ _ hP hS (lv_sub hl [0, 1, 2, 3] rfl)
          · have f7 := (ti_eq (a := x6.toInt) (b := 5) rfl (by decide)).mp c7
            refine lv_aload_n hx hb dX12_otherSide_29 rfl (lv_at hl 1 rfl) ?_
            refine va_get (D := D) (ci := 12) (v := .ref (a 11)) (C := RX12) (T := TX12) (N := 69) hx hb hts (fun _ h => List.mem_cons_of_mem _ (List.mem_append_right _ h)) hown hK hP 0 rfl rfl 11 (by decide) (hts (.fieldLink RX12 31 "TalePlayModel" "middle" "[I") (by decide +kernel)) (fun _ h9 => h9) rfl dX12_otherSide_30 ?_
            refine lv_iload_n hx hb dX12_otherSide_33 rfl (lv_at hl 0 rfl) ?_
            refine va_iald hx hb hK hP 8 7 rfl rfl (vp_in_iff.mpr (by have h9 : y1_3.toInt = y1_3.toInt := rfl; omega)) dX12_otherSide_34 ?_
            refine lv_topi (fun x9 ex9 => ?_)
            have rx9 : 0 ≤ x9.toInt ∧ x9.toInt ≤ 29 := by rw [ex9]; exact hI.2 11 _
            refine lv_iload_n hx hb dX12_otherSide_35 rfl (lv_at hl 2 rfl) ?_
            refine lv_icmp_ne (tgt := 56) hx hb dX12_otherSide_36 (by decide) (fun c10 => ?_) (fun c10 => ?_)
            · have f10 := mt (ti_eq (a := x9.toInt) (b := w.toInt) rfl rfl).mpr c10
              obtain ⟨x11, ex11⟩ : ∃ y : Int32, y = y1_3 + 1 := ⟨_, rfl⟩
              have tx11 := ti_add (a := y1_3.toInt) (b := 1) ex11 rfl (by decide) (by omega) (by omega)
              refine lv_iinc (v := x11) (lv' := [(3, .int x11), (0, .ref o), (1, .int w), (2, .int r1)]) hx hb dX12_otherSide_56 hl (k := 0) rfl (by rw [ex11]; rfl) (by decide) rfl (fun ls hl => ?_)
              refine lv_goto (tgt := 2) hx hb dX12_otherSide_59 (by decide) ?_
              exact ih x11 (by have h83 : x11.toInt = (y1_3.toInt + 1) := tx11; omega) (by have h83 : x11.toInt = (y1_3.toInt + 1) := tx11; omega) _ _ _ hP hS (lv_sub hl [0, 1, 2, 3] rfl)
            · have f10 := (ti_eq (a := x9.toInt) (b := w.toInt) rfl rfl).mp c10
              refine lv_aload_n hx hb dX12_otherSide_39 rfl (lv_at hl 1 rfl) ?_
              refine va_get (D := D) (ci := 12) (v := .ref (a 10)) (C := RX12) (T := TX12) (N := 69) hx hb hts (fun _ h => List.mem_cons_of_mem _ (List.mem_append_right _ h)) hown hK hP 0 rfl rfl 10 (by decide) (hts (.fieldLink RX12 28 "TalePlayModel" "left" "[I") (by decide +kernel)) (fun _ h9 => h9) rfl dX12_otherSide_40 ?_
              refine lv_iload_n hx hb dX12_otherSide_43 rfl (lv_at hl 0 rfl) ?_
              refine va_iald hx hb hK hP 7 6 rfl rfl (vp_in_iff.mpr (by have h9 : y1_3.toInt = y1_3.toInt := rfl; omega)) dX12_otherSide_44 ?_
              refine lv_topi (fun x12 ex12 => ?_)
              have rx12 : 0 ≤ x12.toInt ∧ x12.toInt ≤ 29 := by rw [ex12]; exact hI.2 10 _
              refine lv_iload_n hx hb dX12_otherSide_45 rfl (lv_at hl 3 rfl) ?_
              refine lv_icmp_eq (tgt := 56) hx hb dX12_otherSide_46 (by decide) (fun c13 => ?_) (fun c13 => ?_)
              · have f13 := (ti_eq (a := x12.toInt) (b := r1.toInt) rfl rfl).mp c13
                obtain ⟨x14, ex14⟩ : ∃ y : Int32, y = y1_3 + 1 := ⟨_, rfl⟩
                have tx14 := ti_add (a := y1_3.toInt) (b := 1) ex14 rfl (by decide) (by omega) (by omega)
                refine lv_iinc (v := x14) (lv' := [(3, .int x14), (0, .ref o), (1, .int w), (2, .int r1)]) hx hb dX12_otherSide_56 hl (k := 0) rfl (by rw [ex14]; rfl) (by decide) rfl (fun ls hl => ?_)
                refine lv_goto (tgt := 2) hx hb dX12_otherSide_59 (by decide) ?_
                exact ih x14 (by have h83 : x14.toInt = (y1_3.toInt + 1) := tx14; omega) (by have h83 : x14.toInt = (y1_3.toInt + 1) := tx14; omega) _ _ _ hP hS (lv_sub hl [0, 1, 2, 3] rfl)
              · have f13 := mt (ti_eq (a := x12.toInt) (b := r1.toInt) rfl rfl).mpr c13
                refine lv_aload_n hx hb dX12_otherSide_49 rfl (lv_at hl 1 rfl) ?_
                refine va_get (D := D) (ci := 12) (v := .ref (a 10)) (C := RX12) (T := TX12) (N := 69) hx hb hts (fun _ h => List.mem_cons_of_mem _ (List.mem_append_right _ h)) hown hK hP 0 rfl rfl 10 (by decide) (hts (.fieldLink RX12 28 "TalePlayModel" "left" "[I") (by decide +kernel)) (fun _ h9 => h9) rfl dX12_otherSide_50 ?_
                refine lv_iload_n hx hb dX12_otherSide_53 rfl (lv_at hl 0 rfl) ?_
                refine va_iald hx hb hK hP 7 6 rfl rfl (vp_in_iff.mpr (by have h9 : y1_3.toInt = y1_3.toInt := rfl; omega)) dX12_otherSide_54 ?_
                refine lv_topi (fun x15 ex15 => ?_)
                have rx15 : 0 ≤ x15.toInt ∧ x15.toInt ≤ 29 := by rw [ex15]; exact hI.2 10 _
                exact ro_iret hx hb hr hlocks hS dX12_otherSide_55 (show x15.toInt = -9 ∨ (0 ≤ x15.toInt ∧ x15.toInt ≤ 29) from by omega)
  exact lp1 _ (0 : Int32) (by have h83 : (0 : Int32).toInt = 0 := (by decide); omega) (Nat.lt_succ_self _) _ _ _ hP hS (lv_sub hl [0, 1, 2, 3] rfl)

def wm_X12_isOf : List Cond := .code yX12_isOf cX12_isOf 4 (some .boolean) :: (([.fieldLink RX12 19 "TalePlayModel" "kindOf" "[I", .fieldLink RX12 13 "TalePlayModel" "parentOf" "[I"] : List Cond) ++ wsX120)
set_option maxHeartbeats 4000000 in
set_option maxRecDepth 100000 in
theorem s_X12_isOf (l : Launch) (D : va_G) (sz : Nat) (o : Nat) (a : Nat → Nat) (t : Nat → ClassId) (i : Nat → Int32) (q : Int64) (c : Nat → Nat → Int32) (d : Nat → Nat → Int64) (w : Int32) (k : Int32) (hI : mInv i c) (hw : 0 ≤ w.toInt ∧ w.toInt ≤ 29) : Met l yX12_isOf wm_X12_isOf ({ frames := 0, cells := 0, slots := 0, locals := 0 }) (va_Pc [.ref o, .int w, .int k] (pA D sz (mW o a t i q c d) (mT t))) (va_Qi (fun (r : Int32) (_ : Unit) => (0 ≤ r.toInt ∧ r.toInt ≤ 1)) oA (ro sz)) 0 0 (ro sz) := by
  refine Met.ofW (cc := cX12_isOf) (maxL := 4) (ret := (some .boolean)) (by decide) rfl ?_
  intro p e s m args below meth cd s₁ B hml hv
  obtain ⟨rfl, hsz, hP, hK⟩ := hv
  have hx := B.exec
  have hb := B.bytes
  have hr := B.returns
  have hts := atoms_spec (ws := wm_X12_isOf) B.pre
  have hown : s.vm.findClass RX12 = some m.cls := findClass_of_methodNamed B.named
  have hlocks := B.notSynchronized
  subst hsz
  have hA : ∀ q : Nat, s.heap.size ≤ q → ro s.heap.size q := fun _ h => h
  have hS : va_S (ro s.heap.size) s.heap s.heap [] := va_S.rf
  have hl := lv_entry ([.ref o, .int w, .int k]) (n := 4) (Nat.le_of_ble_eq_true rfl)
  rw [lg_entry_eq]
  generalize (lg_sl ([.ref o, .int w, .int k]) ++ List.replicate (4 - (lg_sl ([.ref o, .int w, .int k])).length) Slot.unset).toArray = ls at hl ⊢
  have hl : lv_has ls 4 [(0, .ref o), (1, .int w), (2, .int k)] := hl
  refine lv_aload_n hx hb dX12_isOf_0 rfl (lv_at hl 0 rfl) ?_
  refine va_get (D := D) (ci := 12) (v := .ref (a 6)) (C := RX12) (T := TX12) (N := 69) hx hb hts (fun _ h => List.mem_cons_of_mem _ (List.mem_append_right _ h)) hown hK hP 0 rfl rfl 6 (by decide) (hts (.fieldLink RX12 19 "TalePlayModel" "kindOf" "[I") (by decide +kernel)) (fun _ h9 => h9) rfl dX12_isOf_1 ?_
  refine lv_iload_n hx hb dX12_isOf_4 rfl (lv_at hl 1 rfl) ?_
  refine va_iald hx hb hK hP 4 3 rfl rfl (vp_in_iff.mpr (by have h9 : w.toInt = w.toInt := rfl; omega)) dX12_isOf_5 ?_
  refine lv_topi (fun x1 ex1 => ?_)
  have rx1 : 0 ≤ x1.toInt ∧ x1.toInt ≤ 23 := by rw [ex1]; exact hI.2 6 _
  refine lv_istore_n (lv' := [(3, .int x1), (0, .ref o), (1, .int w), (2, .int k)]) hx hb dX12_isOf_6 rfl hl (by decide) rfl (fun ls hl => ?_)
  have lp2 : ∀ (fu : Nat) (y2_3 : Int32), (y2_3.toInt = -9 ∨ (0 ≤ y2_3.toInt ∧ y2_3.toInt ≤ 23)) → (y2_3.toInt + 10).toNat < fu → ∀ (H : Heap) (locs : List Loc) (ls : Array Slot), va_P D vwCl (mW o a t i q c d) H → va_S (ro s.heap.size) s.heap H locs → lv_has ls 4 [(3, .int y2_3), (0, .ref o), (1, .int w), (2, .int k)] → W p l e (headSpec wm_X12_isOf ({ frames := 0, cells := 0, slots := 0, locals := 0 })).room s m ([.ref o, .int w, .int k] : List Value).toArray below meth cd H locs 0 0 (MQ below (va_Qi (fun (r : Int32) (_ : Unit) => (0 ≤ r.toInt ∧ r.toInt ≤ 1)) oA (ro s.heap.size)) ([.ref o, .int w, .int k] : List Value).toArray s 0 0 (ro s.heap.size)) (F0 m 7 ls []) := by
    intro fu
    induction fu with
    | zero => intro y2_3 hy2_3 hm; exact absurd hm (Nat.not_lt_zero _)
    | succ fu ih =>
      intro y2_3 hy2_3 hm H locs ls hP hS hl
      refine lv_iload_n hx hb dX12_isOf_7 rfl (lv_at hl 0 rfl) ?_
      refine lv_bipush (v := (-9)) hx hb dX12_isOf_8 (by decide) ?_
      refine lv_icmp_eq (tgt := 28) hx hb dX12_isOf_10 (by decide) (fun c3 => ?_) (fun c3 => ?_)
      · have f3 := (ti_eq (a := y2_3.toInt) (b := (-9)) rfl (by decide)).mp c3
        refine lv_iload_n hx hb dX12_isOf_28 rfl (lv_at hl 0 rfl) ?_
        refine lv_iload_n hx hb dX12_isOf_29 rfl (lv_at hl 3 rfl) ?_
        refine lv_icmp_ne (tgt := 37) hx hb dX12_isOf_30 (by decide) (fun c4 => ?_) (fun c4 => ?_)
        · have f4 := mt (ti_eq (a := y2_3.toInt) (b := k.toInt) rfl rfl).mpr c4
          refine lv_iconst (v := 0) hx hb dX12_isOf_37 (by decide) ?_
          exact ro_zret hx hb hr hlocks hS rfl dX12_isOf_38 (show 0 ≤ (0 : Int32).toInt ∧ (0 : Int32).toInt ≤ 1 from by decide)
        · have f4 := (ti_eq (a := y2_3.toInt) (b := k.toInt) rfl rfl).mp c4
          refine lv_iconst (v := 1) hx hb dX12_isOf_33 (by decide) ?_
          refine lv_goto (tgt := 38) hx hb dX12_isOf_34 (by decide) ?_
          exact ro_zret hx hb hr hlocks hS rfl dX12_isOf_38 (show 0 ≤ (1 : Int32).toInt ∧ (1 : Int32).toInt ≤ 1 from by decide)
      · have f3 := mt (ti_eq (a := y2_3.toInt) (b := (-9)) rfl (by decide)).mpr c3
        refine lv_iload_n hx hb dX12_isOf_13 rfl (lv_at hl 0 rfl) ?_
        refine lv_iload_n hx hb dX12_isOf_14 rfl (lv_at hl 3 rfl) ?_
        refine lv_icmp_eq (tgt := 28) hx hb dX12_isOf_15 (by decide) (fun c5 => ?_) (fun c5 => ?_)
        · have f5 := (ti_eq (a := y2_3.toInt) (b := k.toInt) rfl rfl).mp c5
          refine lv_iload_n hx hb dX12_isOf_28 rfl (lv_at hl 0 rfl) ?_
          refine lv_iload_n hx hb dX12_isOf_29 rfl (lv_at hl 3 rfl) ?_
          refine lv_icmp_ne (tgt := 37) hx hb dX12_isOf_30 (by decide) (fun c6 => ?_) (fun c6 => ?_)
          · have f6 := mt (ti_eq (a := y2_3.toInt) (b := k.toInt) rfl rfl).mpr c6
            refine lv_iconst (v := 0) hx hb dX12_isOf_37 (by decide) ?_
            exact ro_zret hx hb hr hlocks hS rfl dX12_isOf_38 (show 0 ≤ (0 : Int32).toInt ∧ (0 : Int32).toInt ≤ 1 from by decide)
          · have f6 := (ti_eq (a := y2_3.toInt) (b := k.toInt) rfl rfl).mp c6
            refine lv_iconst (v := 1) hx hb dX12_isOf_33 (by decide) ?_
            refine lv_goto (tgt := 38) hx hb dX12_isOf_34 (by decide) ?_
            exact ro_zret hx hb hr hlocks hS rfl dX12_isOf_38 (show 0 ≤ (1 : Int32).toInt ∧ (1 : Int32).toInt ≤ 1 from by decide)
        · have f5 := mt (ti_eq (a := y2_3.toInt) (b := k.toInt) rfl rfl).mpr c5
          refine lv_aload_n hx hb dX12_isOf_18 rfl (lv_at hl 1 rfl) ?_
          refine va_get (D := D) (ci := 12) (v := .ref (a 3)) (C := RX12) (T := TX12) (N := 69) hx hb hts (fun _ h => List.mem_cons_of_mem _ (List.mem_append_right _ h)) hown hK hP 0 rfl rfl 3 (by decide) (hts (.fieldLink RX12 13 "TalePlayModel" "parentOf" "[I") (by decide +kernel)) (fun _ h9 => h9) rfl dX12_isOf_19 ?_
          refine lv_iload_n hx hb dX12_isOf_22 rfl (lv_at hl 0 rfl) ?_
          refine va_iald hx hb hK hP 2 1 rfl rfl (vp_in_iff.mpr (by have h9 : y2_3.toInt = y2_3.toInt := rfl; omega)) dX12_isOf_23 ?_
          refine lv_topi (fun x7 ex7 => ?_)
          have rx7 : x7.toInt = -9 ∨ (0 ≤ x7.toInt ∧ x7.toInt ≤ 23 ∧ x7.toInt < (((y2_3 : Int32).toNatClampNeg : Nat) : Int)) := by rw [ex7]; exact hI.2 3 _
          have rc7 : (((y2_3 : Int32).toNatClampNeg : Nat) : Int) = (y2_3 : Int32).toInt := cl_nn (by have h9 : y2_3.toInt = y2_3.toInt := rfl; omega)
          refine lv_istore_n (lv' := [(3, .int x7), (0, .ref o), (1, .int w), (2, .int k)]) hx hb dX12_isOf_24 rfl hl (by decide) rfl (fun ls hl => ?_)
          refine lv_goto (tgt := 7) hx hb dX12_isOf_25 (by decide) ?_
          exact ih x7 (by omega) (by omega) _ _ _ hP hS (lv_sub hl [0, 1, 2, 3] rfl)
  exact lp2 _ x1 (by omega) (Nat.lt_succ_self _) _ _ _ hP hS (lv_sub hl [0, 1, 2, 3] rfl)

def wm_X12_isMovable : List Cond := .code yX12_isMovable cX12_isMovable 2 (some .boolean) :: (([.methodLink RX12 184 yX12_isOf, .instanceMethod yX12_isOf, .selects RX12 yX12_isOf yX12_isOf, .initialized RX12, .code yX12_isOf cX12_isOf 4 (some .boolean), .fieldLink RX12 19 "TalePlayModel" "kindOf" "[I", .fieldLink RX12 13 "TalePlayModel" "parentOf" "[I"] : List Cond) ++ wsX120)
set_option maxRecDepth 20000 in
theorem gm_X12_isMovable_X12_isOf : GoodIn wm_X12_isMovable (wsV RX12 184 RX12 yX12_isOf wm_X12_isOf) := goodIn_app (goodIn_of _ (by decide +kernel)) (goodIn_r _ [5, 6, 7, 8, 9, 10, 11, 12, 13, 14, 15, 16, 17, 18, 19, 20, 21, 22, 23, 24, 25, 26, 27, 28, 29, 30, 31, 32, 33, 34, 35, 36, 37, 38, 39, 40, 41, 42, 43, 44, 45, 46, 47, 48, 49, 50, 51, 52, 53, 54, 55, 56, 57, 58, 59, 60, 61, 62, 63, 64, 65, 66, 67, 68, 69, 70, 71, 72, 73, 74, 75, 76] (by decide +kernel) (by decide +kernel))
set_option maxHeartbeats 4000000 in
set_option maxRecDepth 100000 in
theorem s_X12_isMovable (l : Launch) (D : va_G) (sz : Nat) (o : Nat) (a : Nat → Nat) (t : Nat → ClassId) (i : Nat → Int32) (q : Int64) (c : Nat → Nat → Int32) (d : Nat → Nat → Int64) (w : Int32) (hI : mInv i c) (hw : 0 ≤ w.toInt ∧ w.toInt ≤ 29) : Met l yX12_isMovable wm_X12_isMovable ({ frames := 1, cells := 0, slots := 0, locals := 23 }) (va_Pc [.ref o, .int w] (pA D sz (mW o a t i q c d) (mT t))) (va_Qi (fun (r : Int32) (_ : Unit) => (0 ≤ r.toInt ∧ r.toInt ≤ 1)) oA (ro sz)) 0 0 (ro sz) := by
  refine Met.ofW (cc := cX12_isMovable) (maxL := 2) (ret := (some .boolean)) (by decide) rfl ?_
  intro p e s m args below meth cd s₁ B hml hv
  obtain ⟨rfl, hsz, hP, hK⟩ := hv
  have hx := B.exec
  have hb := B.bytes
  have hr := B.returns
  have hts := atoms_spec (ws := wm_X12_isMovable) B.pre
  have hown : s.vm.findClass RX12 = some m.cls := findClass_of_methodNamed B.named
  have hlocks := B.notSynchronized
  subst hsz
  have hA : ∀ q : Nat, s.heap.size ≤ q → ro s.heap.size q := fun _ h => h
  have hS : va_S (ro s.heap.size) s.heap s.heap [] := va_S.rf
  have hl := lv_entry ([.ref o, .int w]) (n := 2) (Nat.le_of_ble_eq_true rfl)
  rw [lg_entry_eq]
  generalize (lg_sl ([.ref o, .int w]) ++ List.replicate (2 - (lg_sl ([.ref o, .int w])).length) Slot.unset).toArray = ls at hl ⊢
  have hl : lv_has ls 2 [(0, .ref o), (1, .int w)] := hl
  refine lv_aload_n hx hb dX12_isMovable_0 rfl (lv_at hl 0 rfl) ?_
  refine lv_iload_n hx hb dX12_isMovable_1 rfl (lv_at hl 1 rfl) ?_
  refine lv_iconst (v := 1) hx hb dX12_isMovable_2 (by decide) ?_
  refine ro_calli (va_runV (As := [.int w, .int 1]) (rest := []) ⟨hx, hb, hml, hown, hts⟩ (s_X12_isOf l D s.heap.size o a t i q c d w 1 hI (by have h91 : (1 : Int32).toInt = 1 := (by decide); omega)) (cwV 2 hts gm_X12_isMovable_X12_isOf rfl rfl rfl (by decide +kernel) ⟨Nat.le_of_ble_eq_true rfl, Nat.le_of_ble_eq_true rfl⟩) (pA_V hK hP (ci := 12) (q0 := 0) rfl rfl) rfl rfl hl.1 rfl (lv_room (Nat.le_of_ble_eq_true rfl)) dX12_isMovable_3 ⟨Nat.le_of_ble_eq_true rfl, Nat.le_of_ble_eq_true rfl⟩) hS hA hP (fun r1 u1 H locs hw1 hP hS => ?_)
  have hw1 : 0 ≤ r1.toInt ∧ r1.toInt ≤ 1 := hw1
  refine lv_if_eq (tgt := 22) hx hb dX12_isMovable_6 (by decide) (fun c2 => ?_) (fun c2 => ?_)
  · have f2 := (ti_eq (a := r1.toInt) (b := 0) rfl (by decide)).mp c2
    refine lv_iconst (v := 0) hx hb dX12_isMovable_22 (by decide) ?_
    exact ro_zret hx hb hr hlocks hS rfl dX12_isMovable_23 (show 0 ≤ (0 : Int32).toInt ∧ (0 : Int32).toInt ≤ 1 from by decide)
  · have f2 := mt (ti_eq (a := r1.toInt) (b := 0) rfl (by decide)).mpr c2
    refine lv_aload_n hx hb dX12_isMovable_9 rfl (lv_at hl 0 rfl) ?_
    refine lv_iload_n hx hb dX12_isMovable_10 rfl (lv_at hl 1 rfl) ?_
    refine lv_iconst (v := 2) hx hb dX12_isMovable_11 (by decide) ?_
    refine ro_calli (va_runV (As := [.int w, .int 2]) (rest := []) ⟨hx, hb, hml, hown, hts⟩ (s_X12_isOf l D H.size o a t i q c d w 2 hI (by have h91 : (2 : Int32).toInt = 2 := (by decide); omega)) (cwV 2 hts gm_X12_isMovable_X12_isOf rfl rfl rfl (by decide +kernel) ⟨Nat.le_of_ble_eq_true rfl, Nat.le_of_ble_eq_true rfl⟩) (pA_V hK hP (ci := 12) (q0 := 0) rfl rfl) rfl rfl hl.1 rfl (lv_room (Nat.le_of_ble_eq_true rfl)) dX12_isMovable_12 ⟨Nat.le_of_ble_eq_true rfl, Nat.le_of_ble_eq_true rfl⟩) hS hA hP (fun r3 u3 H locs hw3 hP hS => ?_)
    have hw3 : 0 ≤ r3.toInt ∧ r3.toInt ≤ 1 := hw3
    refine lv_if_ne (tgt := 22) hx hb dX12_isMovable_15 (by decide) (fun c4 => ?_) (fun c4 => ?_)
    · have f4 := mt (ti_eq (a := r3.toInt) (b := 0) rfl (by decide)).mpr c4
      refine lv_iconst (v := 0) hx hb dX12_isMovable_22 (by decide) ?_
      exact ro_zret hx hb hr hlocks hS rfl dX12_isMovable_23 (show 0 ≤ (0 : Int32).toInt ∧ (0 : Int32).toInt ≤ 1 from by decide)
    · have f4 := (ti_eq (a := r3.toInt) (b := 0) rfl (by decide)).mp c4
      refine lv_iconst (v := 1) hx hb dX12_isMovable_18 (by decide) ?_
      refine lv_goto (tgt := 23) hx hb dX12_isMovable_19 (by decide) ?_
      exact ro_zret hx hb hr hlocks hS rfl dX12_isMovable_23 (show 0 ≤ (1 : Int32).toInt ∧ (1 : Int32).toInt ≤ 1 from by decide)

def wm_X12_isGoods : List Cond := .code yX12_isGoods cX12_isGoods 2 (some .boolean) :: (([.methodLink RX12 188 yX12_isMovable, .instanceMethod yX12_isMovable, .selects RX12 yX12_isMovable yX12_isMovable, .initialized RX12, .code yX12_isMovable cX12_isMovable 2 (some .boolean), .methodLink RX12 184 yX12_isOf, .instanceMethod yX12_isOf, .selects RX12 yX12_isOf yX12_isOf, .code yX12_isOf cX12_isOf 4 (some .boolean), .fieldLink RX12 19 "TalePlayModel" "kindOf" "[I", .fieldLink RX12 13 "TalePlayModel" "parentOf" "[I"] : List Cond) ++ wsX120)
set_option maxRecDepth 20000 in
theorem gm_X12_isGoods_X12_isMovable : GoodIn wm_X12_isGoods (wsV RX12 188 RX12 yX12_isMovable wm_X12_isMovable) := goodIn_app (goodIn_of _ (by decide +kernel)) (goodIn_r _ [5, 6, 7, 8, 4, 9, 10, 11, 12, 13, 14, 15, 16, 17, 18, 19, 20, 21, 22, 23, 24, 25, 26, 27, 28, 29, 30, 31, 32, 33, 34, 35, 36, 37, 38, 39, 40, 41, 42, 43, 44, 45, 46, 47, 48, 49, 50, 51, 52, 53, 54, 55, 56, 57, 58, 59, 60, 61, 62, 63, 64, 65, 66, 67, 68, 69, 70, 71, 72, 73, 74, 75, 76, 77, 78, 79, 80] (by decide +kernel) (by decide +kernel))
set_option maxRecDepth 20000 in
theorem gm_X12_isGoods_X12_isOf : GoodIn wm_X12_isGoods (wsV RX12 184 RX12 yX12_isOf wm_X12_isOf) := goodIn_app (goodIn_of _ (by decide +kernel)) (goodIn_r _ [9, 10, 11, 12, 13, 14, 15, 16, 17, 18, 19, 20, 21, 22, 23, 24, 25, 26, 27, 28, 29, 30, 31, 32, 33, 34, 35, 36, 37, 38, 39, 40, 41, 42, 43, 44, 45, 46, 47, 48, 49, 50, 51, 52, 53, 54, 55, 56, 57, 58, 59, 60, 61, 62, 63, 64, 65, 66, 67, 68, 69, 70, 71, 72, 73, 74, 75, 76, 77, 78, 79, 80] (by decide +kernel) (by decide +kernel))
set_option maxHeartbeats 4000000 in
set_option maxRecDepth 100000 in
theorem s_X12_isGoods (l : Launch) (D : va_G) (sz : Nat) (o : Nat) (a : Nat → Nat) (t : Nat → ClassId) (i : Nat → Int32) (q : Int64) (c : Nat → Nat → Int32) (d : Nat → Nat → Int64) (w : Int32) (hI : mInv i c) (hw : 0 ≤ w.toInt ∧ w.toInt ≤ 29) : Met l yX12_isGoods wm_X12_isGoods ({ frames := 2, cells := 0, slots := 0, locals := 44 }) (va_Pc [.ref o, .int w] (pA D sz (mW o a t i q c d) (mT t))) (va_Qi (fun (r : Int32) (_ : Unit) => (0 ≤ r.toInt ∧ r.toInt ≤ 1)) oA (ro sz)) 0 0 (ro sz) := by
  refine Met.ofW (cc := cX12_isGoods) (maxL := 2) (ret := (some .boolean)) (by decide) rfl ?_
  intro p e s m args below meth cd s₁ B hml hv
  obtain ⟨rfl, hsz, hP, hK⟩ := hv
  have hx := B.exec
  have hb := B.bytes
  have hr := B.returns
  have hts := atoms_spec (ws := wm_X12_isGoods) B.pre
  have hown : s.vm.findClass RX12 = some m.cls := findClass_of_methodNamed B.named
  have hlocks := B.notSynchronized
  subst hsz
  have hA : ∀ q : Nat, s.heap.size ≤ q → ro s.heap.size q := fun _ h => h
  have hS : va_S (ro s.heap.size) s.heap s.heap [] := va_S.rf
  have hl := lv_entry ([.ref o, .int w]) (n := 2) (Nat.le_of_ble_eq_true rfl)
  rw [lg_entry_eq]
  generalize (lg_sl ([.ref o, .int w]) ++ List.replicate (2 - (lg_sl ([.ref o, .int w])).length) Slot.unset).toArray = ls at hl ⊢
  have hl : lv_has ls 2 [(0, .ref o), (1, .int w)] := hl
  refine lv_aload_n hx hb dX12_isGoods_0 rfl (lv_at hl 0 rfl) ?_
  refine lv_iload_n hx hb dX12_isGoods_1 rfl (lv_at hl 1 rfl) ?_
  refine ro_calli (va_runV (As := [.int w]) (rest := []) ⟨hx, hb, hml, hown, hts⟩ (s_X12_isMovable l D s.heap.size o a t i q c d w hI (by omega)) (cwV 1 hts gm_X12_isGoods_X12_isMovable rfl rfl rfl (by decide +kernel) ⟨Nat.le_of_ble_eq_true rfl, Nat.le_of_ble_eq_true rfl⟩) (pA_V hK hP (ci := 12) (q0 := 0) rfl rfl) rfl rfl hl.1 rfl (lv_room (Nat.le_of_ble_eq_true rfl)) dX12_isGoods_2 ⟨Nat.le_of_ble_eq_true rfl, Nat.le_of_ble_eq_true rfl⟩) hS hA hP (fun r1 u1 H locs hw1 hP hS => ?_)
  have hw1 : 0 ≤ r1.toInt ∧ r1.toInt ≤ 1 := hw1
  refine lv_if_eq (tgt := 21) hx hb dX12_isGoods_5 (by decide) (fun c2 => ?_) (fun c2 => ?_)
  · have f2 := (ti_eq (a := r1.toInt) (b := 0) rfl (by decide)).mp c2
    refine lv_iconst (v := 0) hx hb dX12_isGoods_21 (by decide) ?_
    exact ro_zret hx hb hr hlocks hS rfl dX12_isGoods_22 (show 0 ≤ (0 : Int32).toInt ∧ (0 : Int32).toInt ≤ 1 from by decide)
  · have f2 := mt (ti_eq (a := r1.toInt) (b := 0) rfl (by decide)).mpr c2
    refine lv_aload_n hx hb dX12_isGoods_8 rfl (lv_at hl 0 rfl) ?_
    refine lv_iload_n hx hb dX12_isGoods_9 rfl (lv_at hl 1 rfl) ?_
    refine lv_iconst (v := 5) hx hb dX12_isGoods_10 (by decide) ?_
    refine ro_calli (va_runV (As := [.int w, .int 5]) (rest := []) ⟨hx, hb, hml, hown, hts⟩ (s_X12_isOf l D H.size o a t i q c d w 5 hI (by have h91 : (5 : Int32).toInt = 5 := (by decide); omega)) (cwV 2 hts gm_X12_isGoods_X12_isOf rfl rfl rfl (by decide +kernel) ⟨Nat.le_of_ble_eq_true rfl, Nat.le_of_ble_eq_true rfl⟩) (pA_V hK hP (ci := 12) (q0 := 0) rfl rfl) rfl rfl hl.1 rfl (lv_room (Nat.le_of_ble_eq_true rfl)) dX12_isGoods_11 ⟨Nat.le_of_ble_eq_true rfl, Nat.le_of_ble_eq_true rfl⟩) hS hA hP (fun r3 u3 H locs hw3 hP hS => ?_)
    have hw3 : 0 ≤ r3.toInt ∧ r3.toInt ≤ 1 := hw3
    refine lv_if_ne (tgt := 21) hx hb dX12_isGoods_14 (by decide) (fun c4 => ?_) (fun c4 => ?_)
    · have f4 := mt (ti_eq (a := r3.toInt) (b := 0) rfl (by decide)).mpr c4
      refine lv_iconst (v := 0) hx hb dX12_isGoods_21 (by decide) ?_
      exact ro_zret hx hb hr hlocks hS rfl dX12_isGoods_22 (show 0 ≤ (0 : Int32).toInt ∧ (0 : Int32).toInt ≤ 1 from by decide)
    · have f4 := (ti_eq (a := r3.toInt) (b := 0) rfl (by decide)).mp c4
      refine lv_iconst (v := 1) hx hb dX12_isGoods_17 (by decide) ?_
      refine lv_goto (tgt := 22) hx hb dX12_isGoods_18 (by decide) ?_
      exact ro_zret hx hb hr hlocks hS rfl dX12_isGoods_22 (show 0 ≤ (1 : Int32).toInt ∧ (1 : Int32).toInt ≤ 1 from by decide)

def wm_X12_isShutter : List Cond := .code yX12_isShutter cX12_isShutter 2 (some .boolean) :: (([.methodLink RX12 184 yX12_isOf, .instanceMethod yX12_isOf, .selects RX12 yX12_isOf yX12_isOf, .initialized RX12, .code yX12_isOf cX12_isOf 4 (some .boolean), .fieldLink RX12 19 "TalePlayModel" "kindOf" "[I", .fieldLink RX12 13 "TalePlayModel" "parentOf" "[I"] : List Cond) ++ wsX120)
set_option maxRecDepth 20000 in
theorem gm_X12_isShutter_X12_isOf : GoodIn wm_X12_isShutter (wsV RX12 184 RX12 yX12_isOf wm_X12_isOf) := goodIn_app (goodIn_of _ (by decide +kernel)) (goodIn_r _ [5, 6, 7, 8, 9, 10, 11, 12, 13, 14, 15, 16, 17, 18, 19, 20, 21, 22, 23, 24, 25, 26, 27, 28, 29, 30, 31, 32, 33, 34, 35, 36, 37, 38, 39, 40, 41, 42, 43, 44, 45, 46, 47, 48, 49, 50, 51, 52, 53, 54, 55, 56, 57, 58, 59, 60, 61, 62, 63, 64, 65, 66, 67, 68, 69, 70, 71, 72, 73, 74, 75, 76] (by decide +kernel) (by decide +kernel))
set_option maxHeartbeats 4000000 in
set_option maxRecDepth 100000 in
theorem s_X12_isShutter (l : Launch) (D : va_G) (sz : Nat) (o : Nat) (a : Nat → Nat) (t : Nat → ClassId) (i : Nat → Int32) (q : Int64) (c : Nat → Nat → Int32) (d : Nat → Nat → Int64) (w : Int32) (hI : mInv i c) (hw : 0 ≤ w.toInt ∧ w.toInt ≤ 29) : Met l yX12_isShutter wm_X12_isShutter ({ frames := 1, cells := 0, slots := 0, locals := 23 }) (va_Pc [.ref o, .int w] (pA D sz (mW o a t i q c d) (mT t))) (va_Qi (fun (r : Int32) (_ : Unit) => (0 ≤ r.toInt ∧ r.toInt ≤ 1)) oA (ro sz)) 0 0 (ro sz) := by
  refine Met.ofW (cc := cX12_isShutter) (maxL := 2) (ret := (some .boolean)) (by decide) rfl ?_
  intro p e s m args below meth cd s₁ B hml hv
  obtain ⟨rfl, hsz, hP, hK⟩ := hv
  have hx := B.exec
  have hb := B.bytes
  have hr := B.returns
  have hts := atoms_spec (ws := wm_X12_isShutter) B.pre
  have hown : s.vm.findClass RX12 = some m.cls := findClass_of_methodNamed B.named
  have hlocks := B.notSynchronized
  subst hsz
  have hA : ∀ q : Nat, s.heap.size ≤ q → ro s.heap.size q := fun _ h => h
  have hS : va_S (ro s.heap.size) s.heap s.heap [] := va_S.rf
  have hl := lv_entry ([.ref o, .int w]) (n := 2) (Nat.le_of_ble_eq_true rfl)
  rw [lg_entry_eq]
  generalize (lg_sl ([.ref o, .int w]) ++ List.replicate (2 - (lg_sl ([.ref o, .int w])).length) Slot.unset).toArray = ls at hl ⊢
  have hl : lv_has ls 2 [(0, .ref o), (1, .int w)] := hl
  refine lv_aload_n hx hb dX12_isShutter_0 rfl (lv_at hl 0 rfl) ?_
  refine lv_iload_n hx hb dX12_isShutter_1 rfl (lv_at hl 1 rfl) ?_
  refine lv_iconst (v := 2) hx hb dX12_isShutter_2 (by decide) ?_
  refine ro_calli (va_runV (As := [.int w, .int 2]) (rest := []) ⟨hx, hb, hml, hown, hts⟩ (s_X12_isOf l D s.heap.size o a t i q c d w 2 hI (by have h91 : (2 : Int32).toInt = 2 := (by decide); omega)) (cwV 2 hts gm_X12_isShutter_X12_isOf rfl rfl rfl (by decide +kernel) ⟨Nat.le_of_ble_eq_true rfl, Nat.le_of_ble_eq_true rfl⟩) (pA_V hK hP (ci := 12) (q0 := 0) rfl rfl) rfl rfl hl.1 rfl (lv_room (Nat.le_of_ble_eq_true rfl)) dX12_isShutter_3 ⟨Nat.le_of_ble_eq_true rfl, Nat.le_of_ble_eq_true rfl⟩) hS hA hP (fun r1 u1 H locs hw1 hP hS => ?_)
  have hw1 : 0 ≤ r1.toInt ∧ r1.toInt ≤ 1 := hw1
  refine lv_if_ne (tgt := 18) hx hb dX12_isShutter_6 (by decide) (fun c2 => ?_) (fun c2 => ?_)
  · have f2 := mt (ti_eq (a := r1.toInt) (b := 0) rfl (by decide)).mpr c2
    refine lv_iconst (v := 1) hx hb dX12_isShutter_18 (by decide) ?_
    refine lv_goto (tgt := 23) hx hb dX12_isShutter_19 (by decide) ?_
    exact ro_zret hx hb hr hlocks hS rfl dX12_isShutter_23 (show 0 ≤ (1 : Int32).toInt ∧ (1 : Int32).toInt ≤ 1 from by decide)
  · have f2 := (ti_eq (a := r1.toInt) (b := 0) rfl (by decide)).mp c2
    refine lv_aload_n hx hb dX12_isShutter_9 rfl (lv_at hl 0 rfl) ?_
    refine lv_iload_n hx hb dX12_isShutter_10 rfl (lv_at hl 1 rfl) ?_
    refine lv_iconst (v := 3) hx hb dX12_isShutter_11 (by decide) ?_
    refine ro_calli (va_runV (As := [.int w, .int 3]) (rest := []) ⟨hx, hb, hml, hown, hts⟩ (s_X12_isOf l D H.size o a t i q c d w 3 hI (by have h91 : (3 : Int32).toInt = 3 := (by decide); omega)) (cwV 2 hts gm_X12_isShutter_X12_isOf rfl rfl rfl (by decide +kernel) ⟨Nat.le_of_ble_eq_true rfl, Nat.le_of_ble_eq_true rfl⟩) (pA_V hK hP (ci := 12) (q0 := 0) rfl rfl) rfl rfl hl.1 rfl (lv_room (Nat.le_of_ble_eq_true rfl)) dX12_isShutter_12 ⟨Nat.le_of_ble_eq_true rfl, Nat.le_of_ble_eq_true rfl⟩) hS hA hP (fun r3 u3 H locs hw3 hP hS => ?_)
    have hw3 : 0 ≤ r3.toInt ∧ r3.toInt ≤ 1 := hw3
    refine lv_if_eq (tgt := 22) hx hb dX12_isShutter_15 (by decide) (fun c4 => ?_) (fun c4 => ?_)
    · have f4 := (ti_eq (a := r3.toInt) (b := 0) rfl (by decide)).mp c4
      refine lv_iconst (v := 0) hx hb dX12_isShutter_22 (by decide) ?_
      exact ro_zret hx hb hr hlocks hS rfl dX12_isShutter_23 (show 0 ≤ (0 : Int32).toInt ∧ (0 : Int32).toInt ≤ 1 from by decide)
    · have f4 := mt (ti_eq (a := r3.toInt) (b := 0) rfl (by decide)).mpr c4
      refine lv_iconst (v := 1) hx hb dX12_isShutter_18 (by decide) ?_
      refine lv_goto (tgt := 23) hx hb dX12_isShutter_19 (by decide) ?_
      exact ro_zret hx hb hr hlocks hS rfl dX12_isShutter_23 (show 0 ≤ (1 : Int32).toInt ∧ (1 : Int32).toInt ≤ 1 from by decide)

def wm_X12_mayHave : List Cond := .code yX12_mayHave cX12_mayHave 3 (some .boolean) :: (([.methodLink RX12 184 yX12_isOf, .instanceMethod yX12_isOf, .selects RX12 yX12_isOf yX12_isOf, .initialized RX12, .code yX12_isOf cX12_isOf 4 (some .boolean), .fieldLink RX12 19 "TalePlayModel" "kindOf" "[I", .fieldLink RX12 13 "TalePlayModel" "parentOf" "[I", .methodLink RX12 191 yX12_isShutter, .instanceMethod yX12_isShutter, .selects RX12 yX12_isShutter yX12_isShutter, .code yX12_isShutter cX12_isShutter 2 (some .boolean), .methodLink RX12 188 yX12_isMovable, .instanceMethod yX12_isMovable, .selects RX12 yX12_isMovable yX12_isMovable, .code yX12_isMovable cX12_isMovable 2 (some .boolean), .methodLink RX12 194 yX12_isGoods, .instanceMethod yX12_isGoods, .selects RX12 yX12_isGoods yX12_isGoods, .code yX12_isGoods cX12_isGoods 2 (some .boolean)] : List Cond) ++ wsX120)
set_option maxRecDepth 20000 in
theorem gm_X12_mayHave_X12_isOf : GoodIn wm_X12_mayHave (wsV RX12 184 RX12 yX12_isOf wm_X12_isOf) := goodIn_app (goodIn_of _ (by decide +kernel)) (goodIn_r _ [5, 6, 7, 20, 21, 22, 23, 24, 25, 26, 27, 28, 29, 30, 31, 32, 33, 34, 35, 36, 37, 38, 39, 40, 41, 42, 43, 44, 45, 46, 47, 48, 49, 50, 51, 52, 53, 54, 55, 56, 57, 58, 59, 60, 61, 62, 63, 64, 65, 66, 67, 68, 69, 70, 71, 72, 73, 74, 75, 76, 77, 78, 79, 80, 81, 82, 83, 84, 85, 86, 87, 88] (by decide +kernel) (by decide +kernel))
set_option maxRecDepth 20000 in
theorem gm_X12_mayHave_X12_isShutter : GoodIn wm_X12_mayHave (wsV RX12 191 RX12 yX12_isShutter wm_X12_isShutter) := goodIn_app (goodIn_of _ (by decide +kernel)) (goodIn_r _ [11, 1, 2, 3, 4, 5, 6, 7, 20, 21, 22, 23, 24, 25, 26, 27, 28, 29, 30, 31, 32, 33, 34, 35, 36, 37, 38, 39, 40, 41, 42, 43, 44, 45, 46, 47, 48, 49, 50, 51, 52, 53, 54, 55, 56, 57, 58, 59, 60, 61, 62, 63, 64, 65, 66, 67, 68, 69, 70, 71, 72, 73, 74, 75, 76, 77, 78, 79, 80, 81, 82, 83, 84, 85, 86, 87, 88] (by decide +kernel) (by decide +kernel))
set_option maxRecDepth 20000 in
theorem gm_X12_mayHave_X12_isMovable : GoodIn wm_X12_mayHave (wsV RX12 188 RX12 yX12_isMovable wm_X12_isMovable) := goodIn_app (goodIn_of _ (by decide +kernel)) (goodIn_r _ [15, 1, 2, 3, 4, 5, 6, 7, 20, 21, 22, 23, 24, 25, 26, 27, 28, 29, 30, 31, 32, 33, 34, 35, 36, 37, 38, 39, 40, 41, 42, 43, 44, 45, 46, 47, 48, 49, 50, 51, 52, 53, 54, 55, 56, 57, 58, 59, 60, 61, 62, 63, 64, 65, 66, 67, 68, 69, 70, 71, 72, 73, 74, 75, 76, 77, 78, 79, 80, 81, 82, 83, 84, 85, 86, 87, 88] (by decide +kernel) (by decide +kernel))
set_option maxRecDepth 20000 in
theorem gm_X12_mayHave_X12_isGoods : GoodIn wm_X12_mayHave (wsV RX12 194 RX12 yX12_isGoods wm_X12_isGoods) := goodIn_app (goodIn_of _ (by decide +kernel)) (goodIn_r _ [19, 12, 13, 14, 4, 15, 1, 2, 3, 5, 6, 7, 20, 21, 22, 23, 24, 25, 26, 27, 28, 29, 30, 31, 32, 33, 34, 35, 36, 37, 38, 39, 40, 41, 42, 43, 44, 45, 46, 47, 48, 49, 50, 51, 52, 53, 54, 55, 56, 57, 58, 59, 60, 61, 62, 63, 64, 65, 66, 67, 68, 69, 70, 71, 72, 73, 74, 75, 76, 77, 78, 79, 80, 81, 82, 83, 84, 85, 86, 87, 88] (by decide +kernel) (by decide +kernel))
set_option maxHeartbeats 4000000 in
set_option maxRecDepth 100000 in
theorem s_X12_mayHave (l : Launch) (D : va_G) (sz : Nat) (o : Nat) (a : Nat → Nat) (t : Nat → ClassId) (i : Nat → Int32) (q : Int64) (c : Nat → Nat → Int32) (d : Nat → Nat → Int64) (w : Int32) (f : Int32) (hI : mInv i c) (hw : 0 ≤ w.toInt ∧ w.toInt ≤ 29) : Met l yX12_mayHave wm_X12_mayHave ({ frames := 3, cells := 0, slots := 0, locals := 65 }) (va_Pc [.ref o, .int w, .int f] (pA D sz (mW o a t i q c d) (mT t))) (va_Qi (fun (r : Int32) (_ : Unit) => (0 ≤ r.toInt ∧ r.toInt ≤ 1)) oA (ro sz)) 0 0 (ro sz) := by
  refine Met.ofW (cc := cX12_mayHave) (maxL := 3) (ret := (some .boolean)) (by decide) rfl ?_
  intro p e s m args below meth cd s₁ B hml hv
  obtain ⟨rfl, hsz, hP, hK⟩ := hv
  have hx := B.exec
  have hb := B.bytes
  have hr := B.returns
  have hts := atoms_spec (ws := wm_X12_mayHave) B.pre
  have hown : s.vm.findClass RX12 = some m.cls := findClass_of_methodNamed B.named
  have hlocks := B.notSynchronized
  subst hsz
  have hA : ∀ q : Nat, s.heap.size ≤ q → ro s.heap.size q := fun _ h => h
  have hS : va_S (ro s.heap.size) s.heap s.heap [] := va_S.rf
  have hl := lv_entry ([.ref o, .int w, .int f]) (n := 3) (Nat.le_of_ble_eq_true rfl)
  rw [lg_entry_eq]
  generalize (lg_sl ([.ref o, .int w, .int f]) ++ List.replicate (3 - (lg_sl ([.ref o, .int w, .int f])).length) Slot.unset).toArray = ls at hl ⊢
  have hl : lv_has ls 3 [(0, .ref o), (1, .int w), (2, .int f)] := hl
  refine lv_iload_n hx hb dX12_mayHave_0 rfl (lv_at hl 2 rfl) ?_
  rcases (show (f.toInt < 0 ∨ 4 < f.toInt) ∨ f.toInt = 0 ∨ f.toInt = 1 ∨ f.toInt = 2 ∨ f.toInt = 3 ∨ f.toInt = 4 by omega) with f1 | f1 | f1 | f1 | f1 | f1
  · refine lv_tableOut (tgt := 56) hx hb dX12_mayHave_1 f1 (by decide) ?_
    refine lv_aload_n hx hb dX12_mayHave_56 rfl (lv_at hl 0 rfl) ?_
    refine lv_iload_n hx hb dX12_mayHave_57 rfl (lv_at hl 1 rfl) ?_
    refine lv_iconst (v := 3) hx hb dX12_mayHave_58 (by decide) ?_
    refine ro_calli (va_runV (As := [.int w, .int 3]) (rest := []) ⟨hx, hb, hml, hown, hts⟩ (s_X12_isOf l D s.heap.size o a t i q c d w 3 hI (by have h91 : (3 : Int32).toInt = 3 := (by decide); omega)) (cwV 2 hts gm_X12_mayHave_X12_isOf rfl rfl rfl (by decide +kernel) ⟨Nat.le_of_ble_eq_true rfl, Nat.le_of_ble_eq_true rfl⟩) (pA_V hK hP (ci := 12) (q0 := 0) rfl rfl) rfl rfl hl.1 rfl (lv_room (Nat.le_of_ble_eq_true rfl)) dX12_mayHave_59 ⟨Nat.le_of_ble_eq_true rfl, Nat.le_of_ble_eq_true rfl⟩) hS hA hP (fun r2 u2 H locs hw2 hP hS => ?_)
    have hw2 : 0 ≤ r2.toInt ∧ r2.toInt ≤ 1 := hw2
    exact ro_zret hx hb hr hlocks hS (nb_n (show 0 ≤ r2.toInt ∧ r2.toInt ≤ 1 from by omega)) dX12_mayHave_62 (show 0 ≤ r2.toInt ∧ r2.toInt ≤ 1 from by omega)
  · refine lv_tableIn (off := 35) (tgt := 36) hx hb dX12_mayHave_1 (by omega) (by omega) (by rw [f1]; rfl) (by decide) ?_
    refine lv_aload_n hx hb dX12_mayHave_36 rfl (lv_at hl 0 rfl) ?_
    refine lv_iload_n hx hb dX12_mayHave_37 rfl (lv_at hl 1 rfl) ?_
    refine ro_calli (va_runV (As := [.int w]) (rest := []) ⟨hx, hb, hml, hown, hts⟩ (s_X12_isShutter l D s.heap.size o a t i q c d w hI (by omega)) (cwV 1 hts gm_X12_mayHave_X12_isShutter rfl rfl rfl (by decide +kernel) ⟨Nat.le_of_ble_eq_true rfl, Nat.le_of_ble_eq_true rfl⟩) (pA_V hK hP (ci := 12) (q0 := 0) rfl rfl) rfl rfl hl.1 rfl (lv_room (Nat.le_of_ble_eq_true rfl)) dX12_mayHave_38 ⟨Nat.le_of_ble_eq_true rfl, Nat.le_of_ble_eq_true rfl⟩) hS hA hP (fun r3 u3 H locs hw3 hP hS => ?_)
    have hw3 : 0 ≤ r3.toInt ∧ r3.toInt ≤ 1 := hw3
    exact ro_zret hx hb hr hlocks hS (nb_n (show 0 ≤ r3.toInt ∧ r3.toInt ≤ 1 from by omega)) dX12_mayHave_41 (show 0 ≤ r3.toInt ∧ r3.toInt ≤ 1 from by omega)
  · refine lv_tableIn (off := 35) (tgt := 36) hx hb dX12_mayHave_1 (by omega) (by omega) (by rw [f1]; rfl) (by decide) ?_
    refine lv_aload_n hx hb dX12_mayHave_36 rfl (lv_at hl 0 rfl) ?_
    refine lv_iload_n hx hb dX12_mayHave_37 rfl (lv_at hl 1 rfl) ?_
    refine ro_calli (va_runV (As := [.int w]) (rest := []) ⟨hx, hb, hml, hown, hts⟩ (s_X12_isShutter l D s.heap.size o a t i q c d w hI (by omega)) (cwV 1 hts gm_X12_mayHave_X12_isShutter rfl rfl rfl (by decide +kernel) ⟨Nat.le_of_ble_eq_true rfl, Nat.le_of_ble_eq_true rfl⟩) (pA_V hK hP (ci := 12) (q0 := 0) rfl rfl) rfl rfl hl.1 rfl (lv_room (Nat.le_of_ble_eq_true rfl)) dX12_mayHave_38 ⟨Nat.le_of_ble_eq_true rfl, Nat.le_of_ble_eq_true rfl⟩) hS hA hP (fun r4 u4 H locs hw4 hP hS => ?_)
    have hw4 : 0 ≤ r4.toInt ∧ r4.toInt ≤ 1 := hw4
    exact ro_zret hx hb hr hlocks hS (nb_n (show 0 ≤ r4.toInt ∧ r4.toInt ≤ 1 from by omega)) dX12_mayHave_41 (show 0 ≤ r4.toInt ∧ r4.toInt ≤ 1 from by omega)
  · refine lv_tableIn (off := 41) (tgt := 42) hx hb dX12_mayHave_1 (by omega) (by omega) (by rw [f1]; rfl) (by decide) ?_
    refine lv_iconst (v := 1) hx hb dX12_mayHave_42 (by decide) ?_
    exact ro_zret hx hb hr hlocks hS rfl dX12_mayHave_43 (show 0 ≤ (1 : Int32).toInt ∧ (1 : Int32).toInt ≤ 1 from by decide)
  · refine lv_tableIn (off := 43) (tgt := 44) hx hb dX12_mayHave_1 (by omega) (by omega) (by rw [f1]; rfl) (by decide) ?_
    refine lv_aload_n hx hb dX12_mayHave_44 rfl (lv_at hl 0 rfl) ?_
    refine lv_iload_n hx hb dX12_mayHave_45 rfl (lv_at hl 1 rfl) ?_
    refine ro_calli (va_runV (As := [.int w]) (rest := []) ⟨hx, hb, hml, hown, hts⟩ (s_X12_isMovable l D s.heap.size o a t i q c d w hI (by omega)) (cwV 1 hts gm_X12_mayHave_X12_isMovable rfl rfl rfl (by decide +kernel) ⟨Nat.le_of_ble_eq_true rfl, Nat.le_of_ble_eq_true rfl⟩) (pA_V hK hP (ci := 12) (q0 := 0) rfl rfl) rfl rfl hl.1 rfl (lv_room (Nat.le_of_ble_eq_true rfl)) dX12_mayHave_46 ⟨Nat.le_of_ble_eq_true rfl, Nat.le_of_ble_eq_true rfl⟩) hS hA hP (fun r5 u5 H locs hw5 hP hS => ?_)
    have hw5 : 0 ≤ r5.toInt ∧ r5.toInt ≤ 1 := hw5
    exact ro_zret hx hb hr hlocks hS (nb_n (show 0 ≤ r5.toInt ∧ r5.toInt ≤ 1 from by omega)) dX12_mayHave_49 (show 0 ≤ r5.toInt ∧ r5.toInt ≤ 1 from by omega)
  · refine lv_tableIn (off := 49) (tgt := 50) hx hb dX12_mayHave_1 (by omega) (by omega) (by rw [f1]; rfl) (by decide) ?_
    refine lv_aload_n hx hb dX12_mayHave_50 rfl (lv_at hl 0 rfl) ?_
    refine lv_iload_n hx hb dX12_mayHave_51 rfl (lv_at hl 1 rfl) ?_
    refine ro_calli (va_runV (As := [.int w]) (rest := []) ⟨hx, hb, hml, hown, hts⟩ (s_X12_isGoods l D s.heap.size o a t i q c d w hI (by omega)) (cwV 1 hts gm_X12_mayHave_X12_isGoods rfl rfl rfl (by decide +kernel) ⟨Nat.le_of_ble_eq_true rfl, Nat.le_of_ble_eq_true rfl⟩) (pA_V hK hP (ci := 12) (q0 := 0) rfl rfl) rfl rfl hl.1 rfl (lv_room (Nat.le_of_ble_eq_true rfl)) dX12_mayHave_52 ⟨Nat.le_of_ble_eq_true rfl, Nat.le_of_ble_eq_true rfl⟩) hS hA hP (fun r6 u6 H locs hw6 hP hS => ?_)
    have hw6 : 0 ≤ r6.toInt ∧ r6.toInt ≤ 1 := hw6
    exact ro_zret hx hb hr hlocks hS (nb_n (show 0 ≤ r6.toInt ∧ r6.toInt ≤ 1 from by omega)) dX12_mayHave_55 (show 0 ≤ r6.toInt ∧ r6.toInt ≤ 1 from by omega)

