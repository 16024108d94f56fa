set_option maxHeartbeats 4000000 in
set_option maxRecDepth 100000 in
theorem s_X12_isShutter_e (l : Launch) (D : va_G) (sz : Nat) (o : Nat) (a : Nat → Nat) (t : Nat → ClassId) (i : Nat → Int32) (q : Int64) (c : Nat → Nat → Int32) (d : Nat → Nat → Int64) (w : Int32) (hI : mInv i c) (hw : 0 ≤ w.toInt ∧ w.toInt ≤ 29) : Met l yX12_isShutter wm_X12_isShutter ({ frames := 1, cells := 0, slots := 0, locals := 23 }) (va_Pc [.ref o, .int w] (pA D sz (mW o a t i q c d) (mT t))) (va_Qi (fun (r : Int32) (_ : Unit) => (0 ≤ kS (c 3) (c 6) w.toInt ∧ kS (c 3) (c 6) w.toInt ≤ 5 ∧ ((r.toInt = 1 ∧ (kS (c 3) (c 6) w.toInt = 2 ∨ kS (c 3) (c 6) w.toInt = 3)) ∨ (r.toInt = 0 ∧ ¬ (kS (c 3) (c 6) w.toInt = 2 ∨ kS (c 3) (c 6) w.toInt = 3))))) oA (ro sz)) 0 0 (ro sz) := by
  refine Met.ofW (cc := cX12_isShutter) (maxL := 2) (ret := (some .boolean)) (by decide +kernel) rfl ?_
  intro p e s m args below meth cd s₁ B hml hv
  obtain ⟨rfl, hsz, hP, hK⟩ := hv
  have hx := B.exec
  have hb := B.bytes
  have hr := B.returns
  have hts := atoms_spec (ws := wm_X12_isShutter) B.pre
  have hown : s.vm.findClass RX12 = some m.cls := findClass_of_methodNamed B.named
  have hlocks := B.notSynchronized
  subst hsz
  have hA : ∀ q : Nat, s.heap.size ≤ q → ro s.heap.size q := fun _ h => h
  have hS : va_S (ro s.heap.size) s.heap s.heap [] := va_S.rf
  have hl := lv_entry ([.ref o, .int w]) (n := 2) (Nat.le_of_ble_eq_true rfl)
  rw [lg_entry_eq]
  generalize (lg_sl ([.ref o, .int w]) ++ List.replicate (2 - (lg_sl ([.ref o, .int w])).length) Slot.unset).toArray = ls at hl ⊢
  have hl : lv_has ls 2 [(0, .ref o), (1, .int w)] := hl
  refine lv_aload_n hx hb dX12_isShutter_0 rfl (lv_at hl 0 rfl) ?_
  refine lv_iload_n hx hb dX12_isShutter_1 rfl (lv_at hl 1 rfl) ?_
  refine lv_iconst (v := 2) hx hb dX12_isShutter_2 (by decide +kernel) ?_
  refine ro_calli (va_runV (As := [.int w, .int 2]) (rest := []) ⟨hx, hb, hml, hown, hts⟩ (s_X12_isOf_e l D s.heap.size o a t i q c d w 2 hI (show 0 ≤ w.toInt ∧ w.toInt ≤ 29 from by have h91 : (2 : Int32).toInt = 2 := (by decide +kernel); omega) (show 0 ≤ 2 ∧ 2 ≤ 5 from by have h91 : (2 : Int32).toInt = 2 := (by decide +kernel); omega)) (cwV 2 hts gm_X12_isShutter_X12_isOf rfl rfl rfl (by decide +kernel) ⟨Nat.le_of_ble_eq_true rfl, Nat.le_of_ble_eq_true rfl⟩) (pA_V hK hP (ci := 12) (q0 := 0) rfl rfl) rfl rfl hl.1 rfl (lv_room (Nat.le_of_ble_eq_true rfl)) dX12_isShutter_3 ⟨Nat.le_of_ble_eq_true rfl, Nat.le_of_ble_eq_true rfl⟩) hS hA hP (fun r1 u1 H locs hw1 hP hS => ?_)
  have hw1 : ((0 ≤ r1.toInt ∧ r1.toInt ≤ 1) ∧ (0 ≤ kS (c 3) (c 6) w.toInt ∧ kS (c 3) (c 6) w.toInt ≤ 5 ∧ ((r1.toInt = 1 ∧ (kS (c 3) (c 6) w.toInt = 2 ∨ ((1 : Int) = 2 ∧ 1 < kS (c 3) (c 6) w.toInt))) ∨ (r1.toInt = 0 ∧ ¬ (kS (c 3) (c 6) w.toInt = 2 ∨ ((1 : Int) = 2 ∧ 1 < kS (c 3) (c 6) w.toInt)))))) := hw1
  obtain ⟨hw1, hr1_0⟩ := hw1
  have hr1_0 : 0 ≤ kS (c 3) (c 6) w.toInt ∧ kS (c 3) (c 6) w.toInt ≤ 5 ∧ ((r1.toInt = 1 ∧ (kS (c 3) (c 6) w.toInt = 2 ∨ ((1 : Int) = 2 ∧ 1 < kS (c 3) (c 6) w.toInt))) ∨ (r1.toInt = 0 ∧ ¬ (kS (c 3) (c 6) w.toInt = 2 ∨ ((1 : Int) = 2 ∧ 1 < kS (c 3) (c 6) w.toInt)))) := hr1_0
  refine lv_if_ne (tgt := 18) hx hb dX12_isShutter_6 (by decide +kernel) (fun c2 => ?_) (fun c2 => ?_)
  · have f2 := mt (ti_eq (a := r1.toInt) (b := 0) rfl (by decide +kernel)).mpr c2
    refine lv_iconst (v := 1) hx hb dX12_isShutter_18 (by decide +kernel) ?_
    refine lv_goto (tgt := 23) hx hb dX12_isShutter_19 (by decide +kernel) ?_
    exact ro_zret hx hb hr hlocks hS rfl dX12_isShutter_23 (show 0 ≤ kS (c 3) (c 6) w.toInt ∧ kS (c 3) (c 6) w.toInt ≤ 5 ∧ (((1 : Int32).toInt = 1 ∧ (kS (c 3) (c 6) w.toInt = 2 ∨ kS (c 3) (c 6) w.toInt = 3)) ∨ ((1 : Int32).toInt = 0 ∧ ¬ (kS (c 3) (c 6) w.toInt = 2 ∨ kS (c 3) (c 6) w.toInt = 3))) from by have h9 : (1 : Int32).toInt = 1 := (by decide +kernel); omega)
  · have f2 := (ti_eq (a := r1.toInt) (b := 0) rfl (by decide +kernel)).mp c2
    refine lv_aload_n hx hb dX12_isShutter_9 rfl (lv_at hl 0 rfl) ?_
    refine lv_iload_n hx hb dX12_isShutter_10 rfl (lv_at hl 1 rfl) ?_
    refine lv_iconst (v := 3) hx hb dX12_isShutter_11 (by decide +kernel) ?_
    refine ro_calli (va_runV (As := [.int w, .int 3]) (rest := []) ⟨hx, hb, hml, hown, hts⟩ (s_X12_isOf_e l D H.size o a t i q c d w 3 hI (show 0 ≤ w.toInt ∧ w.toInt ≤ 29 from by have h91 : (3 : Int32).toInt = 3 := (by decide +kernel); omega) (show 0 ≤ 3 ∧ 3 ≤ 5 from by have h91 : (3 : Int32).toInt = 3 := (by decide +kernel); omega)) (cwV 2 hts gm_X12_isShutter_X12_isOf rfl rfl rfl (by decide +kernel) ⟨Nat.le_of_ble_eq_true rfl, Nat.le_of_ble_eq_true rfl⟩) (pA_V hK hP (ci := 12) (q0 := 0) rfl rfl) rfl rfl hl.1 rfl (lv_room (Nat.le_of_ble_eq_true rfl)) dX12_isShutter_12 ⟨Nat.le_of_ble_eq_true rfl, Nat.le_of_ble_eq_true rfl⟩) hS hA hP (fun r3 u3 H locs hw3 hP hS => ?_)
    have hw3 : ((0 ≤ r3.toInt ∧ r3.toInt ≤ 1) ∧ (0 ≤ kS (c 3) (c 6) w.toInt ∧ kS (c 3) (c 6) w.toInt ≤ 5 ∧ ((r3.toInt = 1 ∧ (kS (c 3) (c 6) w.toInt = 3 ∨ ((1 : Int) = 3 ∧ 1 < kS (c 3) (c 6) w.toInt))) ∨ (r3.toInt = 0 ∧ ¬ (kS (c 3) (c 6) w.toInt = 3 ∨ ((1 : Int) = 3 ∧ 1 < kS (c 3) (c 6) w.toInt)))))) := hw3
    obtain ⟨hw3, hr3_0⟩ := hw3
    have hr3_0 : 0 ≤ kS (c 3) (c 6) w.toInt ∧ kS (c 3) (c 6) w.toInt ≤ 5 ∧ ((r3.toInt = 1 ∧ (kS (c 3) (c 6) w.toInt = 3 ∨ ((1 : Int) = 3 ∧ 1 < kS (c 3) (c 6) w.toInt))) ∨ (r3.toInt = 0 ∧ ¬ (kS (c 3) (c 6) w.toInt = 3 ∨ ((1 : Int) = 3 ∧ 1 < kS (c 3) (c 6) w.toInt)))) := hr3_0
    refine lv_if_eq (tgt := 22) hx hb dX12_isShutter_15 (by decide +kernel) (fun c4 => ?_) (fun c4 => ?_)
    · have f4 := (ti_eq (a := r3.toInt) (b := 0) rfl (by decide +kernel)).mp c4
      refine lv_iconst (v := 0) hx hb dX12_isShutter_22 (by decide +kernel) ?_
      exact ro_zret hx hb hr hlocks hS rfl dX12_isShutter_23 (show 0 ≤ kS (c 3) (c 6) w.toInt ∧ kS (c 3) (c 6) w.toInt ≤ 5 ∧ (((0 : Int32).toInt = 1 ∧ (kS (c 3) (c 6) w.toInt = 2 ∨ kS (c 3) (c 6) w.toInt = 3)) ∨ ((0 : Int32).toInt = 0 ∧ ¬ (kS (c 3) (c 6) w.toInt = 2 ∨ kS (c 3) (c 6) w.toInt = 3))) from by have h9 : (0 : Int32).toInt = 0 := (by decide +kernel); omega)
    · have f4 := mt (ti_eq (a := r3.toInt) (b := 0) rfl (by decide +kernel)).mpr c4
      refine lv_iconst (v := 1) hx hb dX12_isShutter_18 (by decide +kernel) ?_
      refine lv_goto (tgt := 23) hx hb dX12_isShutter_19 (by decide +kernel) ?_
      exact ro_zret hx hb hr hlocks hS rfl dX12_isShutter_23 (show 0 ≤ kS (c 3) (c 6) w.toInt ∧ kS (c 3) (c 6) w.toInt ≤ 5 ∧ (((1 : Int32).toInt = 1 ∧ (kS (c 3) (c 6) w.toInt = 2 ∨ kS (c 3) (c 6) w.toInt = 3)) ∨ ((1 : Int32).toInt = 0 ∧ ¬ (kS (c 3) (c 6) w.toInt = 2 ∨ kS (c 3) (c 6) w.toInt = 3))) from by have h9 : (1 : Int32).toInt = 1 := (by decide +kernel); omega)

set_option maxHeartbeats 4000000 in
set_option maxRecDepth 100000 in
theorem s_X12_mayHave_e (l : Launch) (D : va_G) (sz : Nat) (o : Nat) (a : Nat → Nat) (t : Nat → ClassId) (i : Nat → Int32) (q : Int64) (c : Nat → Nat → Int32) (d : Nat → Nat → Int64) (w : Int32) (f : Int32) (hI : mInv i c) (hw : 0 ≤ w.toInt ∧ w.toInt ≤ 29) (hf : 0 ≤ f.toInt ∧ f.toInt ≤ 5) : Met l yX12_mayHave wm_X12_mayHave ({ frames := 3, cells := 0, slots := 0, locals := 65 }) (va_Pc [.ref o, .int w, .int f] (pA D sz (mW o a t i q c d) (mT t))) (va_Qi (fun (r : Int32) (_ : Unit) => (((r.toInt = 1 ∧ ((f.toInt ≤ 1 ∧ (kS (c 3) (c 6) w.toInt = 2 ∨ kS (c 3) (c 6) w.toInt = 3)) ∨ f.toInt = 2 ∨ (f.toInt = 3 ∧ (kS (c 3) (c 6) w.toInt = 1 ∨ 3 ≤ kS (c 3) (c 6) w.toInt)) ∨ (f.toInt = 4 ∧ ((kS (c 3) (c 6) w.toInt = 1 ∨ 3 ≤ kS (c 3) (c 6) w.toInt) ∧ ¬ kS (c 3) (c 6) w.toInt = 5)) ∨ (5 ≤ f.toInt ∧ kS (c 3) (c 6) w.toInt = 3))) ∨ (r.toInt = 0 ∧ ¬ ((f.toInt ≤ 1 ∧ (kS (c 3) (c 6) w.toInt = 2 ∨ kS (c 3) (c 6) w.toInt = 3)) ∨ f.toInt = 2 ∨ (f.toInt = 3 ∧ (kS (c 3) (c 6) w.toInt = 1 ∨ 3 ≤ kS (c 3) (c 6) w.toInt)) ∨ (f.toInt = 4 ∧ ((kS (c 3) (c 6) w.toInt = 1 ∨ 3 ≤ kS (c 3) (c 6) w.toInt) ∧ ¬ kS (c 3) (c 6) w.toInt = 5)) ∨ (5 ≤ f.toInt ∧ kS (c 3) (c 6) w.toInt = 3)))))) oA (ro sz)) 0 0 (ro sz) := by
  refine Met.ofW (cc := cX12_mayHave) (maxL := 3) (ret := (some .boolean)) (by decide +kernel) rfl ?_
  intro p e s m args below meth cd s₁ B hml hv
  obtain ⟨rfl, hsz, hP, hK⟩ := hv
  have hx := B.exec
  have hb := B.bytes
  have hr := B.returns
  have hts := atoms_spec (ws := wm_X12_mayHave) B.pre
  have hown : s.vm.findClass RX12 = some m.cls := findClass_of_methodNamed B.named
  have hlocks := B.notSynchronized
  subst hsz
  have hA : ∀ q : Nat, s.heap.size ≤ q → ro s.heap.size q := fun _ h => h
  have hS : va_S (ro s.heap.size) s.heap s.heap [] := va_S.rf
  have hl := lv_entry ([.ref o, .int w, .int f]) (n := 3) (Nat.le_of_ble_eq_true rfl)
  rw [lg_entry_eq]
  generalize (lg_sl ([.ref o, .int w, .int f]) ++ List.replicate (3 - (lg_sl ([.ref o, .int w, .int f])).length) Slot.unset).toArray = ls at hl ⊢
  have hl : lv_has ls 3 [(0, .ref o), (1, .int w), (2, .int f)] := hl
  refine lv_iload_n hx hb dX12_mayHave_0 rfl (lv_at hl 2 rfl) ?_
  rcases (show (f.toInt < 0 ∨ 4 < f.toInt) ∨ f.toInt = 0 ∨ f.toInt = 1 ∨ f.toInt = 2 ∨ f.toInt = 3 ∨ f.toInt = 4 by omega) with f1 | f1 | f1 | f1 | f1 | f1
  · refine lv_tableOut (tgt := 56) hx hb dX12_mayHave_1 f1 (by decide +kernel) ?_
    refine lv_aload_n hx hb dX12_mayHave_56 rfl (lv_at hl 0 rfl) ?_
    refine lv_iload_n hx hb dX12_mayHave_57 rfl (lv_at hl 1 rfl) ?_
    refine lv_iconst (v := 3) hx hb dX12_mayHave_58 (by decide +kernel) ?_
    refine ro_calli (va_runV (As := [.int w, .int 3]) (rest := []) ⟨hx, hb, hml, hown, hts⟩ (s_X12_isOf_e l D s.heap.size o a t i q c d w 3 hI (show 0 ≤ w.toInt ∧ w.toInt ≤ 29 from by have h91 : (3 : Int32).toInt = 3 := (by decide +kernel); omega) (show 0 ≤ 3 ∧ 3 ≤ 5 from by have h91 : (3 : Int32).toInt = 3 := (by decide +kernel); omega)) (cwV 2 hts gm_X12_mayHave_X12_isOf rfl rfl rfl (by decide +kernel) ⟨Nat.le_of_ble_eq_true rfl, Nat.le_of_ble_eq_true rfl⟩) (pA_V hK hP (ci := 12) (q0 := 0) rfl rfl) rfl rfl hl.1 rfl (lv_room (Nat.le_of_ble_eq_true rfl)) dX12_mayHave_59 ⟨Nat.le_of_ble_eq_true rfl, Nat.le_of_ble_eq_true rfl⟩) hS hA hP (fun r2 u2 H locs hw2 hP hS => ?_)
    have hw2 : ((0 ≤ r2.toInt ∧ r2.toInt ≤ 1) ∧ (0 ≤ kS (c 3) (c 6) w.toInt ∧ kS (c 3) (c 6) w.toInt ≤ 5 ∧ ((r2.toInt = 1 ∧ (kS (c 3) (c 6) w.toInt = 3 ∨ ((1 : Int) = 3 ∧ 1 < kS (c 3) (c 6) w.toInt))) ∨ (r2.toInt = 0 ∧ ¬ (kS (c 3) (c 6) w.toInt = 3 ∨ ((1 : Int) = 3 ∧ 1 < kS (c 3) (c 6) w.toInt)))))) := hw2
    obtain ⟨hw2, hr2_0⟩ := hw2
    have hr2_0 : 0 ≤ kS (c 3) (c 6) w.toInt ∧ kS (c 3) (c 6) w.toInt ≤ 5 ∧ ((r2.toInt = 1 ∧ (kS (c 3) (c 6) w.toInt = 3 ∨ ((1 : Int) = 3 ∧ 1 < kS (c 3) (c 6) w.toInt))) ∨ (r2.toInt = 0 ∧ ¬ (kS (c 3) (c 6) w.toInt = 3 ∨ ((1 : Int) = 3 ∧ 1 < kS (c 3) (c 6) w.toInt)))) := hr2_0
    exact ro_zret hx hb hr hlocks hS (nb_n (show 0 ≤ r2.toInt ∧ r2.toInt ≤ 1 from by omega)) dX12_mayHave_62 (show ((r2.toInt = 1 ∧ ((f.toInt ≤ 1 ∧ (kS (c 3) (c 6) w.toInt = 2 ∨ kS (c 3) (c 6) w.toInt = 3)) ∨ f.toInt = 2 ∨ (f.toInt = 3 ∧ (kS (c 3) (c 6) w.toInt = 1 ∨ 3 ≤ kS (c 3) (c 6) w.toInt)) ∨ (f.toInt = 4 ∧ ((kS (c 3) (c 6) w.toInt = 1 ∨ 3 ≤ kS (c 3) (c 6) w.toInt) ∧ ¬ kS (c 3) (c 6) w.toInt = 5)) ∨ (5 ≤ f.toInt ∧ kS (c 3) (c 6) w.toInt = 3))) ∨ (r2.toInt = 0 ∧ ¬ ((f.toInt ≤ 1 ∧ (kS (c 3) (c 6) w.toInt = 2 ∨ kS (c 3) (c 6) w.toInt = 3)) ∨ f.toInt = 2 ∨ (f.toInt = 3 ∧ (kS (c 3) (c 6) w.toInt = 1 ∨ 3 ≤ kS (c 3) (c 6) w.toInt)) ∨ (f.toInt = 4 ∧ ((kS (c 3) (c 6) w.toInt = 1 ∨ 3 ≤ kS (c 3) (c 6) w.toInt) ∧ ¬ kS (c 3) (c 6) w.toInt = 5)) ∨ (5 ≤ f.toInt ∧ kS (c 3) (c 6) w.toInt = 3)))) from by omega)
  · refine lv_tableIn (off := 35) (tgt := 36) hx hb dX12_mayHave_1 (by omega) (by omega) (by rw [f1]; rfl) (by decide +kernel) ?_
    refine lv_aload_n hx hb dX12_mayHave_36 rfl (lv_at hl 0 rfl) ?_
    refine lv_iload_n hx hb dX12_mayHave_37 rfl (lv_at hl 1 rfl) ?_
    refine ro_calli (va_runV (As := [.int w]) (rest := []) ⟨hx, hb, hml, hown, hts⟩ (s_X12_isShutter_e l D s.heap.size o a t i q c d w hI (show 0 ≤ w.toInt ∧ w.toInt ≤ 29 from by omega)) (cwV 1 hts gm_X12_mayHave_X12_isShutter rfl rfl rfl (by decide +kernel) ⟨Nat.le_of_ble_eq_true rfl, Nat.le_of_ble_eq_true rfl⟩) (pA_V hK hP (ci := 12) (q0 := 0) rfl rfl) rfl rfl hl.1 rfl (lv_room (Nat.le_of_ble_eq_true rfl)) dX12_mayHave_38 ⟨Nat.le_of_ble_eq_true rfl, Nat.le_of_ble_eq_true rfl⟩) hS hA hP (fun r3 u3 H locs hw3 hP hS => ?_)
    have hw3 : (0 ≤ kS (c 3) (c 6) w.toInt ∧ kS (c 3) (c 6) w.toInt ≤ 5 ∧ ((r3.toInt = 1 ∧ (kS (c 3) (c 6) w.toInt = 2 ∨ kS (c 3) (c 6) w.toInt = 3)) ∨ (r3.toInt = 0 ∧ ¬ (kS (c 3) (c 6) w.toInt = 2 ∨ kS (c 3) (c 6) w.toInt = 3)))) := hw3
    exact ro_zret hx hb hr hlocks hS (nb_n (show 0 ≤ r3.toInt ∧ r3.toInt ≤ 1 from by omega)) dX12_mayHave_41 (show ((r3.toInt = 1 ∧ ((f.toInt ≤ 1 ∧ (kS (c 3) (c 6) w.toInt = 2 ∨ kS (c 3) (c 6) w.toInt = 3)) ∨ f.toInt = 2 ∨ (f.toInt = 3 ∧ (kS (c 3) (c 6) w.toInt = 1 ∨ 3 ≤ kS (c 3) (c 6) w.toInt)) ∨ (f.toInt = 4 ∧ ((kS (c 3) (c 6) w.toInt = 1 ∨ 3 ≤ kS (c 3) (c 6) w.toInt) ∧ ¬ kS (c 3) (c 6) w.toInt = 5)) ∨ (5 ≤ f.toInt ∧ kS (c 3) (c 6) w.toInt = 3))) ∨ (r3.toInt = 0 ∧ ¬ ((f.toInt ≤ 1 ∧ (kS (c 3) (c 6) w.toInt = 2 ∨ kS (c 3) (c 6) w.toInt = 3)) ∨ f.toInt = 2 ∨ (f.toInt = 3 ∧ (kS (c 3) (c 6) w.toInt = 1 ∨ 3 ≤ kS (c 3) (c 6) w.toInt)) ∨ (f.toInt = 4 ∧ ((kS (c 3) (c 6) w.toInt = 1 ∨ 3 ≤ kS (c 3) (c 6) w.toInt) ∧ ¬ kS (c 3) (c 6) w.toInt = 5)) ∨ (5 ≤ f.toInt ∧ kS (c 3) (c 6) w.toInt = 3)))) from by omega)
  · refine lv_tableIn (off := 35) (tgt := 36) hx hb dX12_mayHave_1 (by omega) (by omega) (by rw [f1]; rfl) (by decide +kernel) ?_
    refine lv_aload_n hx hb dX12_mayHave_36 rfl (lv_at hl 0 rfl) ?_
    refine lv_iload_n hx hb dX12_mayHave_37 rfl (lv_at hl 1 rfl) ?_
    refine ro_calli (va_runV (As := [.int w]) (rest := []) ⟨hx, hb, hml, hown, hts⟩ (s_X12_isShutter_e l D s.heap.size o a t i q c d w hI (show 0 ≤ w.toInt ∧ w.toInt ≤ 29 from by omega)) (cwV 1 hts gm_X12_mayHave_X12_isShutter rfl rfl rfl (by decide +kernel) ⟨Nat.le_of_ble_eq_true rfl, Nat.le_of_ble_eq_true rfl⟩) (pA_V hK hP (ci := 12) (q0 := 0) rfl rfl) rfl rfl hl.1 rfl (lv_room (Nat.le_of_ble_eq_true rfl)) dX12_mayHave_38 ⟨Nat.le_of_ble_eq_true rfl, Nat.le_of_ble_eq_true rfl⟩) hS hA hP (fun r4 u4 H locs hw4 hP hS => ?_)
    have hw4 : (0 ≤ kS (c 3) (c 6) w.toInt ∧ kS (c 3) (c 6) w.toInt ≤ 5 ∧ ((r4.toInt = 1 ∧ (kS (c 3) (c 6) w.toInt = 2 ∨ kS (c 3) (c 6) w.toInt = 3)) ∨ (r4.toInt = 0 ∧ ¬ (kS (c 3) (c 6) w.toInt = 2 ∨ kS (c 3) (c 6) w.toInt = 3)))) := hw4
    exact ro_zret hx hb hr hlocks hS (nb_n (show 0 ≤ r4.toInt ∧ r4.toInt ≤ 1 from by omega)) dX12_mayHave_41 (show ((r4.toInt = 1 ∧ ((f.toInt ≤ 1 ∧ (kS (c 3) (c 6) w.toInt = 2 ∨ kS (c 3) (c 6) w.toInt = 3)) ∨ f.toInt = 2 ∨ (f.toInt = 3 ∧ (kS (c 3) (c 6) w.toInt = 1 ∨ 3 ≤ kS (c 3) (c 6) w.toInt)) ∨ (f.toInt = 4 ∧ ((kS (c 3) (c 6) w.toInt = 1 ∨ 3 ≤ kS (c 3) (c 6) w.toInt) ∧ ¬ kS (c 3) (c 6) w.toInt = 5)) ∨ (5 ≤ f.toInt ∧ kS (c 3) (c 6) w.toInt = 3))) ∨ (r4.toInt = 0 ∧ ¬ ((f.toInt ≤ 1 ∧ (kS (c 3) (c 6) w.toInt = 2 ∨ kS (c 3) (c 6) w.toInt = 3)) ∨ f.toInt = 2 ∨ (f.toInt = 3 ∧ (kS (c 3) (c 6) w.toInt = 1 ∨ 3 ≤ kS (c 3) (c 6) w.toInt)) ∨ (f.toInt = 4 ∧ ((kS (c 3) (c 6) w.toInt = 1 ∨ 3 ≤ kS (c 3) (c 6) w.toInt) ∧ ¬ kS (c 3) (c 6) w.toInt = 5)) ∨ (5 ≤ f.toInt ∧ kS (c 3) (c 6) w.toInt = 3)))) from by omega)
  · refine lv_tableIn (off := 41) (tgt := 42) hx hb dX12_mayHave_1 (by omega) (by omega) (by rw [f1]; rfl) (by decide +kernel) ?_
    refine lv_iconst (v := 1) hx hb dX12_mayHave_42 (by decide +kernel) ?_
    exact ro_zret hx hb hr hlocks hS rfl dX12_mayHave_43 (show (((1 : Int32).toInt = 1 ∧ ((f.toInt ≤ 1 ∧ (kS (c 3) (c 6) w.toInt = 2 ∨ kS (c 3) (c 6) w.toInt = 3)) ∨ f.toInt = 2 ∨ (f.toInt = 3 ∧ (kS (c 3) (c 6) w.toInt = 1 ∨ 3 ≤ kS (c 3) (c 6) w.toInt)) ∨ (f.toInt = 4 ∧ ((kS (c 3) (c 6) w.toInt = 1 ∨ 3 ≤ kS (c 3) (c 6) w.toInt) ∧ ¬ kS (c 3) (c 6) w.toInt = 5)) ∨ (5 ≤ f.toInt ∧ kS (c 3) (c 6) w.toInt = 3))) ∨ ((1 : Int32).toInt = 0 ∧ ¬ ((f.toInt ≤ 1 ∧ (kS (c 3) (c 6) w.toInt = 2 ∨ kS (c 3) (c 6) w.toInt = 3)) ∨ f.toInt = 2 ∨ (f.toInt = 3 ∧ (kS (c 3) (c 6) w.toInt = 1 ∨ 3 ≤ kS (c 3) (c 6) w.toInt)) ∨ (f.toInt = 4 ∧ ((kS (c 3) (c 6) w.toInt = 1 ∨ 3 ≤ kS (c 3) (c 6) w.toInt) ∧ ¬ kS (c 3) (c 6) w.toInt = 5)) ∨ (5 ≤ f.toInt ∧ kS (c 3) (c 6) w.toInt = 3)))) from by have h9 : (1 : Int32).toInt = 1 := (by decide +kernel); omega)
  · refine lv_tableIn (off := 43) (tgt := 44) hx hb dX12_mayHave_1 (by omega) (by omega) (by rw [f1]; rfl) (by decide +kernel) ?_
    refine lv_aload_n hx hb dX12_mayHave_44 rfl (lv_at hl 0 rfl) ?_
    refine lv_iload_n hx hb dX12_mayHave_45 rfl (lv_at hl 1 rfl) ?_
    refine ro_calli (va_runV (As := [.int w]) (rest := []) ⟨hx, hb, hml, hown, hts⟩ (s_X12_isMovable_e l D s.heap.size o a t i q c d w hI (show 0 ≤ w.toInt ∧ w.toInt ≤ 29 from by omega)) (cwV 1 hts gm_X12_mayHave_X12_isMovable rfl rfl rfl (by decide +kernel) ⟨Nat.le_of_ble_eq_true rfl, Nat.le_of_ble_eq_true rfl⟩) (pA_V hK hP (ci := 12) (q0 := 0) rfl rfl) rfl rfl hl.1 rfl (lv_room (Nat.le_of_ble_eq_true rfl)) dX12_mayHave_46 ⟨Nat.le_of_ble_eq_true rfl, Nat.le_of_ble_eq_true rfl⟩) hS hA hP (fun r5 u5 H locs hw5 hP hS => ?_)
    have hw5 : (0 ≤ kS (c 3) (c 6) w.toInt ∧ kS (c 3) (c 6) w.toInt ≤ 5 ∧ ((r5.toInt = 1 ∧ (kS (c 3) (c 6) w.toInt = 1 ∨ 3 ≤ kS (c 3) (c 6) w.toInt)) ∨ (r5.toInt = 0 ∧ ¬ (kS (c 3) (c 6) w.toInt = 1 ∨ 3 ≤ kS (c 3) (c 6) w.toInt)))) := hw5
    exact ro_zret hx hb hr hlocks hS (nb_n (show 0 ≤ r5.toInt ∧ r5.toInt ≤ 1 from by omega)) dX12_mayHave_49 (show ((r5.toInt = 1 ∧ ((f.toInt ≤ 1 ∧ (kS (c 3) (c 6) w.toInt = 2 ∨ kS (c 3) (c 6) w.toInt = 3)) ∨ f.toInt = 2 ∨ (f.toInt = 3 ∧ (kS (c 3) (c 6) w.toInt = 1 ∨ 3 ≤ kS (c 3) (c 6) w.toInt)) ∨ (f.toInt = 4 ∧ ((kS (c 3) (c 6) w.toInt = 1 ∨ 3 ≤ kS (c 3) (c 6) w.toInt) ∧ ¬ kS (c 3) (c 6) w.toInt = 5)) ∨ (5 ≤ f.toInt ∧ kS (c 3) (c 6) w.toInt = 3))) ∨ (r5.toInt = 0 ∧ ¬ ((f.toInt ≤ 1 ∧ (kS (c 3) (c 6) w.toInt = 2 ∨ kS (c 3) (c 6) w.toInt = 3)) ∨ f.toInt = 2 ∨ (f.toInt = 3 ∧ (kS (c 3) (c 6) w.toInt = 1 ∨ 3 ≤ kS (c 3) (c 6) w.toInt)) ∨ (f.toInt = 4 ∧ ((kS (c 3) (c 6) w.toInt = 1 ∨ 3 ≤ kS (c 3) (c 6) w.toInt) ∧ ¬ kS (c 3) (c 6) w.toInt = 5)) ∨ (5 ≤ f.toInt ∧ kS (c 3) (c 6) w.toInt = 3)))) from by omega)
  · refine lv_tableIn (off := 49) (tgt := 50) hx hb dX12_mayHave_1 (by omega) (by omega) (by rw [f1]; rfl) (by decide +kernel) ?_
    refine lv_aload_n hx hb dX12_mayHave_50 rfl (lv_at hl 0 rfl) ?_
    refine lv_iload_n hx hb dX12_mayHave_51 rfl (lv_at hl 1 rfl) ?_
    refine ro_calli (va_runV (As := [.int w]) (rest := []) ⟨hx, hb, hml, hown, hts⟩ (s_X12_isGoods_e l D s.heap.size o a t i q c d w hI (show 0 ≤ w.toInt ∧ w.toInt ≤ 29 from by omega)) (cwV 1 hts gm_X12_mayHave_X12_isGoods rfl rfl rfl (by decide +kernel) ⟨Nat.le_of_ble_eq_true rfl, Nat.le_of_ble_eq_true rfl⟩) (pA_V hK hP (ci := 12) (q0 := 0) rfl rfl) rfl rfl hl.1 rfl (lv_room (Nat.le_of_ble_eq_true rfl)) dX12_mayHave_52 ⟨Nat.le_of_ble_eq_true rfl, Nat.le_of_ble_eq_true rfl⟩) hS hA hP (fun r6 u6 H locs hw6 hP hS => ?_)
    have hw6 : (0 ≤ kS (c 3) (c 6) w.toInt ∧ kS (c 3) (c 6) w.toInt ≤ 5 ∧ ((r6.toInt = 1 ∧ ((kS (c 3) (c 6) w.toInt = 1 ∨ 3 ≤ kS (c 3) (c 6) w.toInt) ∧ ¬ kS (c 3) (c 6) w.toInt = 5)) ∨ (r6.toInt = 0 ∧ ¬ ((kS (c 3) (c 6) w.toInt = 1 ∨ 3 ≤ kS (c 3) (c 6) w.toInt) ∧ ¬ kS (c 3) (c 6) w.toInt = 5)))) := hw6
    exact ro_zret hx hb hr hlocks hS (nb_n (show 0 ≤ r6.toInt ∧ r6.toInt ≤ 1 from by omega)) dX12_mayHave_55 (show ((r6.toInt = 1 ∧ ((f.toInt ≤ 1 ∧ (kS (c 3) (c 6) w.toInt = 2 ∨ kS (c 3) (c 6) w.toInt = 3)) ∨ f.toInt = 2 ∨ (f.toInt = 3 ∧ (kS (c 3) (c 6) w.toInt = 1 ∨ 3 ≤ kS (c 3) (c 6) w.toInt)) ∨ (f.toInt = 4 ∧ ((kS (c 3) (c 6) w.toInt = 1 ∨ 3 ≤ kS (c 3) (c 6) w.toInt) ∧ ¬ kS (c 3) (c 6) w.toInt = 5)) ∨ (5 ≤ f.toInt ∧ kS (c 3) (c 6) w.toInt = 3))) ∨ (r6.toInt = 0 ∧ ¬ ((f.toInt ≤ 1 ∧ (kS (c 3) (c 6) w.toInt = 2 ∨ kS (c 3) (c 6) w.toInt = 3)) ∨ f.toInt = 2 ∨ (f.toInt = 3 ∧ (kS (c 3) (c 6) w.toInt = 1 ∨ 3 ≤ kS (c 3) (c 6) w.toInt)) ∨ (f.toInt = 4 ∧ ((kS (c 3) (c 6) w.toInt = 1 ∨ 3 ≤ kS (c 3) (c 6) w.toInt) ∧ ¬ kS (c 3) (c 6) w.toInt = 5)) ∨ (5 ≤ f.toInt ∧ kS (c 3) (c 6) w.toInt = 3)))) from by omega)

set_option maxHeartbeats 4000000 in
set_option maxRecDepth 100000 in
theorem s_X12_fitsLeft_e (l : Launch) (D : va_G) (sz : Nat) (o : Nat) (a : Nat → Nat) (t : Nat → ClassId) (i : Nat → Int32) (q : Int64) (c : Nat → Nat → Int32) (d : Nat → Nat → Int64) (f : Int32) (w1 : Int32) (w2 : Int32) (hI : mInv i c) (hw1 : 0 ≤ w1.toInt ∧ w1.toInt ≤ 29) (hf : 0 ≤ f.toInt ∧ f.toInt ≤ 7) (hb6 : ¬ f.toInt = 6 ∨ (0 ≤ w2.toInt ∧ w2.toInt ≤ 5)) : Met l yX12_fitsLeft wm_X12_fitsLeft ({ frames := 4, cells := 0, slots := 0, locals := 87 }) (va_Pc [.ref o, .int f, .int w1, .int w2] (pA D sz (mW o a t i q c d) (mT t))) (va_Qi (fun (r : Int32) (_ : Unit) => ((0 ≤ r.toInt ∧ r.toInt ≤ 1) ∧ (Sm r (FtL f.toInt (kS (c 3) (c 6) w1.toInt) w2.toInt)))) oA (ro sz)) 0 0 (ro sz) := by
  refine Met.ofW (cc := cX12_fitsLeft) (maxL := 4) (ret := (some .boolean)) (by decide +kernel) rfl ?_
  intro p e s m args below meth cd s₁ B hml hv
  obtain ⟨rfl, hsz, hP, hK⟩ := hv
  have hx := B.exec
  have hb := B.bytes
  have hr := B.returns
  have hts := atoms_spec (ws := wm_X12_fitsLeft) B.pre
  have hown : s.vm.findClass RX12 = some m.cls := findClass_of_methodNamed B.named
  have hlocks := B.notSynchronized
  subst hsz
  have hA : ∀ q : Nat, s.heap.size ≤ q → ro s.heap.size q := fun _ h => h
  have hS : va_S (ro s.heap.size) s.heap s.heap [] := va_S.rf
  have hl := lv_entry ([.ref o, .int f, .int w1, .int w2]) (n := 4) (Nat.le_of_ble_eq_true rfl)
  rw [lg_entry_eq]
  generalize (lg_sl ([.ref o, .int f, .int w1, .int w2]) ++ List.replicate (4 - (lg_sl ([.ref o, .int f, .int w1, .int w2])).length) Slot.unset).toArray = ls at hl ⊢
  have hl : lv_has ls 4 [(0, .ref o), (1, .int f), (2, .int w1), (3, .int w2)] := hl
  refine lv_iload_n hx hb dX12_fitsLeft_0 rfl (lv_at hl 1 rfl) ?_
  rcases (show (f.toInt < 0 ∨ 6 < f.toInt) ∨ f.toInt = 0 ∨ f.toInt = 1 ∨ f.toInt = 2 ∨ f.toInt = 3 ∨ f.toInt = 4 ∨ f.toInt = 5 ∨ f.toInt = 6 by omega) with f1 | f1 | f1 | f1 | f1 | f1 | f1 | f1
  · refine lv_tableOut (tgt := 64) hx hb dX12_fitsLeft_1 f1 (by decide +kernel) ?_
    refine lv_aload_n hx hb dX12_fitsLeft_64 rfl (lv_at hl 0 rfl) ?_
    refine lv_iload_n hx hb dX12_fitsLeft_65 rfl (lv_at hl 2 rfl) ?_
    refine ro_calli (va_runV (As := [.int w1]) (rest := []) ⟨hx, hb, hml, hown, hts⟩ (s_X12_isGoods_e l D s.heap.size o a t i q c d w1 hI (show 0 ≤ w1.toInt ∧ w1.toInt ≤ 29 from by omega)) (cwV 1 hts gm_X12_fitsLeft_X12_isGoods rfl rfl rfl (by decide +kernel) ⟨Nat.le_of_ble_eq_true rfl, Nat.le_of_ble_eq_true rfl⟩) (pA_V hK hP (ci := 12) (q0 := 0) rfl rfl) rfl rfl hl.1 rfl (lv_room (Nat.le_of_ble_eq_true rfl)) dX12_fitsLeft_66 ⟨Nat.le_of_ble_eq_true rfl, Nat.le_of_ble_eq_true rfl⟩) hS hA hP (fun r2 u2 H locs hw2 hP hS => ?_)
    have hw2 : (0 ≤ kS (c 3) (c 6) w1.toInt ∧ kS (c 3) (c 6) w1.toInt ≤ 5 ∧ ((r2.toInt = 1 ∧ ((kS (c 3) (c 6) w1.toInt = 1 ∨ 3 ≤ kS (c 3) (c 6) w1.toInt) ∧ ¬ kS (c 3) (c 6) w1.toInt = 5)) ∨ (r2.toInt = 0 ∧ ¬ ((kS (c 3) (c 6) w1.toInt = 1 ∨ 3 ≤ kS (c 3) (c 6) w1.toInt) ∧ ¬ kS (c 3) (c 6) w1.toInt = 5)))) := hw2
    exact ro_zret hx hb hr hlocks hS (nb_n (show 0 ≤ r2.toInt ∧ r2.toInt ≤ 1 from by omega)) dX12_fitsLeft_69 ⟨(show 0 ≤ r2.toInt ∧ r2.toInt ≤ 1 from by omega), (show Sm r2 (FtL f.toInt (kS (c 3) (c 6) w1.toInt) w2.toInt) from by unfold Sm FtL; omega)⟩
  · refine lv_tableIn (off := 43) (tgt := 44) hx hb dX12_fitsLeft_1 (by omega) (by omega) (by rw [f1]; rfl) (by decide +kernel) ?_
    refine lv_aload_n hx hb dX12_fitsLeft_44 rfl (lv_at hl 0 rfl) ?_
    refine lv_iload_n hx hb dX12_fitsLeft_45 rfl (lv_at hl 2 rfl) ?_
    refine ro_calli (va_runV (As := [.int w1]) (rest := []) ⟨hx, hb, hml, hown, hts⟩ (s_X12_isMovable_e l D s.heap.size o a t i q c d w1 hI (show 0 ≤ w1.toInt ∧ w1.toInt ≤ 29 from by omega)) (cwV 1 hts gm_X12_fitsLeft_X12_isMovable rfl rfl rfl (by decide +kernel) ⟨Nat.le_of_ble_eq_true rfl, Nat.le_of_ble_eq_true rfl⟩) (pA_V hK hP (ci := 12) (q0 := 0) rfl rfl) rfl rfl hl.1 rfl (lv_room (Nat.le_of_ble_eq_true rfl)) dX12_fitsLeft_46 ⟨Nat.le_of_ble_eq_true rfl, Nat.le_of_ble_eq_true rfl⟩) hS hA hP (fun r3 u3 H locs hw3 hP hS => ?_)
    have hw3 : (0 ≤ kS (c 3) (c 6) w1.toInt ∧ kS (c 3) (c 6) w1.toInt ≤ 5 ∧ ((r3.toInt = 1 ∧ (kS (c 3) (c 6) w1.toInt = 1 ∨ 3 ≤ kS (c 3) (c 6) w1.toInt)) ∨ (r3.toInt = 0 ∧ ¬ (kS (c 3) (c 6) w1.toInt = 1 ∨ 3 ≤ kS (c 3) (c 6) w1.toInt)))) := hw3
    exact ro_zret hx hb hr hlocks hS (nb_n (show 0 ≤ r3.toInt ∧ r3.toInt ≤ 1 from by omega)) dX12_fitsLeft_49 ⟨(show 0 ≤ r3.toInt ∧ r3.toInt ≤ 1 from by omega), (show Sm r3 (FtL f.toInt (kS (c 3) (c 6) w1.toInt) w2.toInt) from by unfold Sm FtL; omega)⟩
  · refine lv_tableIn (off := 43) (tgt := 44) hx hb dX12_fitsLeft_1 (by omega) (by omega) (by rw [f1]; rfl) (by decide +kernel) ?_
    refine lv_aload_n hx hb dX12_fitsLeft_44 rfl (lv_at hl 0 rfl) ?_
    refine lv_iload_n hx hb dX12_fitsLeft_45 rfl (lv_at hl 2 rfl) ?_
    refine ro_calli (va_runV (As := [.int w1]) (rest := []) ⟨hx, hb, hml, hown, hts⟩ (s_X12_isMovable_e l D s.heap.size o a t i q c d w1 hI (show 0 ≤ w1.toInt ∧ w1.toInt ≤ 29 from by omega)) (cwV 1 hts gm_X12_fitsLeft_X12_isMovable rfl rfl rfl (by decide +kernel) ⟨Nat.le_of_ble_eq_true rfl, Nat.le_of_ble_eq_true rfl⟩) (pA_V hK hP (ci := 12) (q0 := 0) rfl rfl) rfl rfl hl.1 rfl (lv_room (Nat.le_of_ble_eq_true rfl)) dX12_fitsLeft_46 ⟨Nat.le_of_ble_eq_true rfl, Nat.le_of_ble_eq_true rfl⟩) hS hA hP (fun r4 u4 H locs hw4 hP hS => ?_)
    have hw4 : (0 ≤ kS (c 3) (c 6) w1.toInt ∧ kS (c 3) (c 6) w1.toInt ≤ 5 ∧ ((r4.toInt = 1 ∧ (kS (c 3) (c 6) w1.toInt = 1 ∨ 3 ≤ kS (c 3) (c 6) w1.toInt)) ∨ (r4.toInt = 0 ∧ ¬ (kS (c 3) (c 6) w1.toInt = 1 ∨ 3 ≤ kS (c 3) (c 6) w1.toInt)))) := hw4
    exact ro_zret hx hb hr hlocks hS (nb_n (show 0 ≤ r4.toInt ∧ r4.toInt ≤ 1 from by omega)) dX12_fitsLeft_49 ⟨(show 0 ≤ r4.toInt ∧ r4.toInt ≤ 1 from by omega), (show Sm r4 (FtL f.toInt (kS (c 3) (c 6) w1.toInt) w2.toInt) from by unfold Sm FtL; omega)⟩
  · refine lv_tableIn (off := 63) (tgt := 64) hx hb dX12_fitsLeft_1 (by omega) (by omega) (by rw [f1]; rfl) (by decide +kernel) ?_
    refine lv_aload_n hx hb dX12_fitsLeft_64 rfl (lv_at hl 0 rfl) ?_
    refine lv_iload_n hx hb dX12_fitsLeft_65 rfl (lv_at hl 2 rfl) ?_
    refine ro_calli (va_runV (As := [.int w1]) (rest := []) ⟨hx, hb, hml, hown, hts⟩ (s_X12_isGoods_e l D s.heap.size o a t i q c d w1 hI (show 0 ≤ w1.toInt ∧ w1.toInt ≤ 29 from by omega)) (cwV 1 hts gm_X12_fitsLeft_X12_isGoods rfl rfl rfl (by decide +kernel) ⟨Nat.le_of_ble_eq_true rfl, Nat.le_of_ble_eq_true rfl⟩) (pA_V hK hP (ci := 12) (q0 := 0) rfl rfl) rfl rfl hl.1 rfl (lv_room (Nat.le_of_ble_eq_true rfl)) dX12_fitsLeft_66 ⟨Nat.le_of_ble_eq_true rfl, Nat.le_of_ble_eq_true rfl⟩) hS hA hP (fun r5 u5 H locs hw5 hP hS => ?_)
    have hw5 : (0 ≤ kS (c 3) (c 6) w1.toInt ∧ kS (c 3) (c 6) w1.toInt ≤ 5 ∧ ((r5.toInt = 1 ∧ ((kS (c 3) (c 6) w1.toInt = 1 ∨ 3 ≤ kS (c 3) (c 6) w1.toInt) ∧ ¬ kS (c 3) (c 6) w1.toInt = 5)) ∨ (r5.toInt = 0 ∧ ¬ ((kS (c 3) (c 6) w1.toInt = 1 ∨ 3 ≤ kS (c 3) (c 6) w1.toInt) ∧ ¬ kS (c 3) (c 6) w1.toInt = 5)))) := hw5
    exact ro_zret hx hb hr hlocks hS (nb_n (show 0 ≤ r5.toInt ∧ r5.toInt ≤ 1 from by omega)) dX12_fitsLeft_69 ⟨(show 0 ≤ r5.toInt ∧ r5.toInt ≤ 1 from by omega), (show Sm r5 (FtL f.toInt (kS (c 3) (c 6) w1.toInt) w2.toInt) from by unfold Sm FtL; omega)⟩
  · refine lv_tableIn (off := 63) (tgt := 64) hx hb dX12_fitsLeft_1 (by omega) (by omega) (by rw [f1]; rfl) (by decide +kernel) ?_
    refine lv_aload_n hx hb dX12_fitsLeft_64 rfl (lv_at hl 0 rfl) ?_
    refine lv_iload_n hx hb dX12_fitsLeft_65 rfl (lv_at hl 2 rfl) ?_
    refine ro_calli (va_runV (As := [.int w1]) (rest := []) ⟨hx, hb, hml, hown, hts⟩ (s_X12_isGoods_e l D s.heap.size o a t i q c d w1 hI (show 0 ≤ w1.toInt ∧ w1.toInt ≤ 29 from by omega)) (cwV 1 hts gm_X12_fitsLeft_X12_isGoods rfl rfl rfl (by decide +kernel) ⟨Nat.le_of_ble_eq_true rfl, Nat.le_of_ble_eq_true rfl⟩) (pA_V hK hP (ci := 12) (q0 := 0) rfl rfl) rfl rfl hl.1 rfl (lv_room (Nat.le_of_ble_eq_true rfl)) dX12_fitsLeft_66 ⟨Nat.le_of_ble_eq_true rfl, Nat.le_of_ble_eq_true rfl⟩) hS hA hP (fun r6 u6 H locs hw6 hP hS => ?_)
    have hw6 : (0 ≤ kS (c 3) (c 6) w1.toInt ∧ kS (c 3) (c 6) w1.toInt ≤ 5 ∧ ((r6.toInt = 1 ∧ ((kS (c 3) (c 6) w1.toInt = 1 ∨ 3 ≤ kS (c 3) (c 6) w1.toInt) ∧ ¬ kS (c 3) (c 6) w1.toInt = 5)) ∨ (r6.toInt = 0 ∧ ¬ ((kS (c 3) (c 6) w1.toInt = 1 ∨ 3 ≤ kS (c 3) (c 6) w1.toInt) ∧ ¬ kS (c 3) (c 6) w1.toInt = 5)))) := hw6
    exact ro_zret hx hb hr hlocks hS (nb_n (show 0 ≤ r6.toInt ∧ r6.toInt ≤ 1 from by omega)) dX12_fitsLeft_69 ⟨(show 0 ≤ r6.toInt ∧ r6.toInt ≤ 1 from by omega), (show Sm r6 (FtL f.toInt (kS (c 3) (c 6) w1.toInt) w2.toInt) from by unfold Sm FtL; omega)⟩
  · refine lv_tableIn (off := 63) (tgt := 64) hx hb dX12_fitsLeft_1 (by omega) (by omega) (by rw [f1]; rfl) (by decide +kernel) ?_
    refine lv_aload_n hx hb dX12_fitsLeft_64 rfl (lv_at hl 0 rfl) ?_
    refine lv_iload_n hx hb dX12_fitsLeft_65 rfl (lv_at hl 2 rfl) ?_
    refine ro_calli (va_runV (As := [.int w1]) (rest := []) ⟨hx, hb, hml, hown, hts⟩ (s_X12_isGoods_e l D s.heap.size o a t i q c d w1 hI (show 0 ≤ w1.toInt ∧ w1.toInt ≤ 29 from by omega)) (cwV 1 hts gm_X12_fitsLeft_X12_isGoods rfl rfl rfl (by decide +kernel) ⟨Nat.le_of_ble_eq_true rfl, Nat.le_of_ble_eq_true rfl⟩) (pA_V hK hP (ci := 12) (q0 := 0) rfl rfl) rfl rfl hl.1 rfl (lv_room (Nat.le_of_ble_eq_true rfl)) dX12_fitsLeft_66 ⟨Nat.le_of_ble_eq_true rfl, Nat.le_of_ble_eq_true rfl⟩) hS hA hP (fun r7 u7 H locs hw7 hP hS => ?_)
    have hw7 : (0 ≤ kS (c 3) (c 6) w1.toInt ∧ kS (c 3) (c 6) w1.toInt ≤ 5 ∧ ((r7.toInt = 1 ∧ ((kS (c 3) (c 6) w1.toInt = 1 ∨ 3 ≤ kS (c 3) (c 6) w1.toInt) ∧ ¬ kS (c 3) (c 6) w1.toInt = 5)) ∨ (r7.toInt = 0 ∧ ¬ ((kS (c 3) (c 6) w1.toInt = 1 ∨ 3 ≤ kS (c 3) (c 6) w1.toInt) ∧ ¬ kS (c 3) (c 6) w1.toInt = 5)))) := hw7
    exact ro_zret hx hb hr hlocks hS (nb_n (show 0 ≤ r7.toInt ∧ r7.toInt ≤ 1 from by omega)) dX12_fitsLeft_69 ⟨(show 0 ≤ r7.toInt ∧ r7.toInt ≤ 1 from by omega), (show Sm r7 (FtL f.toInt (kS (c 3) (c 6) w1.toInt) w2.toInt) from by unfold Sm FtL; omega)⟩
  · refine lv_tableIn (off := 49) (tgt := 50) hx hb dX12_fitsLeft_1 (by omega) (by omega) (by rw [f1]; rfl) (by decide +kernel) ?_
    refine lv_aload_n hx hb dX12_fitsLeft_50 rfl (lv_at hl 0 rfl) ?_
    refine lv_iload_n hx hb dX12_fitsLeft_51 rfl (lv_at hl 2 rfl) ?_
    refine lv_iconst (v := 0) hx hb dX12_fitsLeft_52 (by decide +kernel) ?_
    refine ro_calli (va_runV (As := [.int w1, .int 0]) (rest := []) ⟨hx, hb, hml, hown, hts⟩ (s_X12_isOf_e l D s.heap.size o a t i q c d w1 0 hI (show 0 ≤ w1.toInt ∧ w1.toInt ≤ 29 from by have h91 : (0 : Int32).toInt = 0 := (by decide +kernel); omega) (show 0 ≤ 0 ∧ 0 ≤ 5 from by have h91 : (0 : Int32).toInt = 0 := (by decide +kernel); omega)) (cwV 2 hts gm_X12_fitsLeft_X12_isOf rfl rfl rfl (by decide +kernel) ⟨Nat.le_of_ble_eq_true rfl, Nat.le_of_ble_eq_true rfl⟩) (pA_V hK hP (ci := 12) (q0 := 0) rfl rfl) rfl rfl hl.1 rfl (lv_room (Nat.le_of_ble_eq_true rfl)) dX12_fitsLeft_53 ⟨Nat.le_of_ble_eq_true rfl, Nat.le_of_ble_eq_true rfl⟩) hS hA hP (fun r8 u8 H locs hw8 hP hS => ?_)
    have hw8 : ((0 ≤ r8.toInt ∧ r8.toInt ≤ 1) ∧ (0 ≤ kS (c 3) (c 6) w1.toInt ∧ kS (c 3) (c 6) w1.toInt ≤ 5 ∧ ((r8.toInt = 1 ∧ (kS (c 3) (c 6) w1.toInt = 0 ∨ ((1 : Int) = 0 ∧ 1 < kS (c 3) (c 6) w1.toInt))) ∨ (r8.toInt = 0 ∧ ¬ (kS (c 3) (c 6) w1.toInt = 0 ∨ ((1 : Int) = 0 ∧ 1 < kS (c 3) (c 6) w1.toInt)))))) := hw8
    obtain ⟨hw8, hr8_0⟩ := hw8
    have hr8_0 : 0 ≤ kS (c 3) (c 6) w1.toInt ∧ kS (c 3) (c 6) w1.toInt ≤ 5 ∧ ((r8.toInt = 1 ∧ (kS (c 3) (c 6) w1.toInt = 0 ∨ ((1 : Int) = 0 ∧ 1 < kS (c 3) (c 6) w1.toInt))) ∨ (r8.toInt = 0 ∧ ¬ (kS (c 3) (c 6) w1.toInt = 0 ∨ ((1 : Int) = 0 ∧ 1 < kS (c 3) (c 6) w1.toInt)))) := hr8_0
    exact ro_zret hx hb hr hlocks hS (nb_n (show 0 ≤ r8.toInt ∧ r8.toInt ≤ 1 from by omega)) dX12_fitsLeft_56 ⟨(show 0 ≤ r8.toInt ∧ r8.toInt ≤ 1 from by omega), (show Sm r8 (FtL f.toInt (kS (c 3) (c 6) w1.toInt) w2.toInt) from by unfold Sm FtL; omega)⟩
  · refine lv_tableIn (off := 56) (tgt := 57) hx hb dX12_fitsLeft_1 (by omega) (by omega) (by rw [f1]; rfl) (by decide +kernel) ?_
    refine lv_aload_n hx hb dX12_fitsLeft_57 rfl (lv_at hl 0 rfl) ?_
    refine lv_iload_n hx hb dX12_fitsLeft_58 rfl (lv_at hl 2 rfl) ?_
    refine lv_iload_n hx hb dX12_fitsLeft_59 rfl (lv_at hl 3 rfl) ?_
    refine ro_calli (va_runV (As := [.int w1, .int w2]) (rest := []) ⟨hx, hb, hml, hown, hts⟩ (s_X12_mayHave_e l D s.heap.size o a t i q c d w1 w2 hI (show 0 ≤ w1.toInt ∧ w1.toInt ≤ 29 from by omega) (show 0 ≤ w2.toInt ∧ w2.toInt ≤ 5 from by omega)) (cwV 2 hts gm_X12_fitsLeft_X12_mayHave rfl rfl rfl (by decide +kernel) ⟨Nat.le_of_ble_eq_true rfl, Nat.le_of_ble_eq_true rfl⟩) (pA_V hK hP (ci := 12) (q0 := 0) rfl rfl) rfl rfl hl.1 rfl (lv_room (Nat.le_of_ble_eq_true rfl)) dX12_fitsLeft_60 ⟨Nat.le_of_ble_eq_true rfl, Nat.le_of_ble_eq_true rfl⟩) hS hA hP (fun r9 u9 H locs hw9 hP hS => ?_)
    have hw9 : (((r9.toInt = 1 ∧ ((w2.toInt ≤ 1 ∧ (kS (c 3) (c 6) w1.toInt = 2 ∨ kS (c 3) (c 6) w1.toInt = 3)) ∨ w2.toInt = 2 ∨ (w2.toInt = 3 ∧ (kS (c 3) (c 6) w1.toInt = 1 ∨ 3 ≤ kS (c 3) (c 6) w1.toInt)) ∨ (w2.toInt = 4 ∧ ((kS (c 3) (c 6) w1.toInt = 1 ∨ 3 ≤ kS (c 3) (c 6) w1.toInt) ∧ ¬ kS (c 3) (c 6) w1.toInt = 5)) ∨ (5 ≤ w2.toInt ∧ kS (c 3) (c 6) w1.toInt = 3))) ∨ (r9.toInt = 0 ∧ ¬ ((w2.toInt ≤ 1 ∧ (kS (c 3) (c 6) w1.toInt = 2 ∨ kS (c 3) (c 6) w1.toInt = 3)) ∨ w2.toInt = 2 ∨ (w2.toInt = 3 ∧ (kS (c 3) (c 6) w1.toInt = 1 ∨ 3 ≤ kS (c 3) (c 6) w1.toInt)) ∨ (w2.toInt = 4 ∧ ((kS (c 3) (c 6) w1.toInt = 1 ∨ 3 ≤ kS (c 3) (c 6) w1.toInt) ∧ ¬ kS (c 3) (c 6) w1.toInt = 5)) ∨ (5 ≤ w2.toInt ∧ kS (c 3) (c 6) w1.toInt = 3))))) := hw9
    exact ro_zret hx hb hr hlocks hS (nb_n (show 0 ≤ r9.toInt ∧ r9.toInt ≤ 1 from by omega)) dX12_fitsLeft_63 ⟨(show 0 ≤ r9.toInt ∧ r9.toInt ≤ 1 from by omega), (show Sm r9 (FtL f.toInt (kS (c 3) (c 6) w1.toInt) w2.toInt) from by unfold Sm FtL; omega)⟩

set_option maxHeartbeats 4000000 in
set_option maxRecDepth 100000 in
theorem s_X12_fitsRight_e (l : Launch) (D : va_G) (sz : Nat) (o : Nat) (a : Nat → Nat) (t : Nat → ClassId) (i : Nat → Int32) (q : Int64) (c : Nat → Nat → Int32) (d : Nat → Nat → Int64) (f : Int32) (w2 : Int32) (hI : mInv i c) (hw2 : 0 ≤ w2.toInt ∧ w2.toInt ≤ 29) (hf : 0 ≤ f.toInt ∧ f.toInt ≤ 7) : Met l yX12_fitsRight wm_X12_fitsRight ({ frames := 2, cells := 0, slots := 0, locals := 44 }) (va_Pc [.ref o, .int f, .int w2] (pA D sz (mW o a t i q c d) (mT t))) (va_Qi (fun (r : Int32) (_ : Unit) => ((0 ≤ r.toInt ∧ r.toInt ≤ 1) ∧ (Sm r (FtR f.toInt (kS (c 3) (c 6) w2.toInt))))) oA (ro sz)) 0 0 (ro sz) := by
  refine Met.ofW (cc := cX12_fitsRight) (maxL := 3) (ret := (some .boolean)) (by decide +kernel) rfl ?_
  intro p e s m args below meth cd s₁ B hml hv
  obtain ⟨rfl, hsz, hP, hK⟩ := hv
  have hx := B.exec
  have hb := B.bytes
  have hr := B.returns
  have hts := atoms_spec (ws := wm_X12_fitsRight) B.pre
  have hown : s.vm.findClass RX12 = some m.cls := findClass_of_methodNamed B.named
  have hlocks := B.notSynchronized
  subst hsz
  have hA : ∀ q : Nat, s.heap.size ≤ q → ro s.heap.size q := fun _ h => h
  have hS : va_S (ro s.heap.size) s.heap s.heap [] := va_S.rf
  have hl := lv_entry ([.ref o, .int f, .int w2]) (n := 3) (Nat.le_of_ble_eq_true rfl)
  rw [lg_entry_eq]
  generalize (lg_sl ([.ref o, .int f, .int w2]) ++ List.replicate (3 - (lg_sl ([.ref o, .int f, .int w2])).length) Slot.unset).toArray = ls at hl ⊢
  have hl : lv_has ls 3 [(0, .ref o), (1, .int f), (2, .int w2)] := hl
  refine lv_iload_n hx hb dX12_fitsRight_0 rfl (lv_at hl 1 rfl) ?_
  rcases (show (f.toInt < 0 ∨ 7 < f.toInt) ∨ f.toInt = 0 ∨ f.toInt = 1 ∨ f.toInt = 2 ∨ f.toInt = 3 ∨ f.toInt = 4 ∨ f.toInt = 5 ∨ f.toInt = 6 ∨ f.toInt = 7 by omega) with f1 | f1 | f1 | f1 | f1 | f1 | f1 | f1 | f1
  · refine lv_tableOut (tgt := 123) hx hb dX12_fitsRight_1 f1 (by decide +kernel) ?_
    refine lv_iconst (v := 1) hx hb dX12_fitsRight_123 (by decide +kernel) ?_
    exact ro_zret hx hb hr hlocks hS rfl dX12_fitsRight_124 ⟨(show 0 ≤ (1 : Int32).toInt ∧ (1 : Int32).toInt ≤ 1 from by have h9 : (1 : Int32).toInt = 1 := (by decide +kernel); omega), (show Sm (1 : Int32) (FtR f.toInt (kS (c 3) (c 6) w2.toInt)) from sm_1 (by unfold FtR; omega))⟩
  · refine lv_tableIn (off := 47) (tgt := 48) hx hb dX12_fitsRight_1 (by omega) (by omega) (by rw [f1]; rfl) (by decide +kernel) ?_
    refine lv_aload_n hx hb dX12_fitsRight_48 rfl (lv_at hl 0 rfl) ?_
    refine lv_iload_n hx hb dX12_fitsRight_49 rfl (lv_at hl 2 rfl) ?_
    refine lv_iconst (v := 0) hx hb dX12_fitsRight_50 (by decide +kernel) ?_
    refine ro_calli (va_runV (As := [.int w2, .int 0]) (rest := []) ⟨hx, hb, hml, hown, hts⟩ (s_X12_isOf_e l D s.heap.size o a t i q c d w2 0 hI (show 0 ≤ w2.toInt ∧ w2.toInt ≤ 29 from by have h91 : (0 : Int32).toInt = 0 := (by decide +kernel); omega) (show 0 ≤ 0 ∧ 0 ≤ 5 from by have h91 : (0 : Int32).toInt = 0 := (by decide +kernel); omega)) (cwV 2 hts gm_X12_fitsRight_X12_isOf rfl rfl rfl (by decide +kernel) ⟨Nat.le_of_ble_eq_true rfl, Nat.le_of_ble_eq_true rfl⟩) (pA_V hK hP (ci := 12) (q0 := 0) rfl rfl) rfl rfl hl.1 rfl (lv_room (Nat.le_of_ble_eq_true rfl)) dX12_fitsRight_51 ⟨Nat.le_of_ble_eq_true rfl, Nat.le_of_ble_eq_true rfl⟩) hS hA hP (fun r2 u2 H locs hw2 hP hS => ?_)
    have hw2 : ((0 ≤ r2.toInt ∧ r2.toInt ≤ 1) ∧ (0 ≤ kS (c 3) (c 6) w2.toInt ∧ kS (c 3) (c 6) w2.toInt ≤ 5 ∧ ((r2.toInt = 1 ∧ (kS (c 3) (c 6) w2.toInt = 0 ∨ ((1 : Int) = 0 ∧ 1 < kS (c 3) (c 6) w2.toInt))) ∨ (r2.toInt = 0 ∧ ¬ (kS (c 3) (c 6) w2.toInt = 0 ∨ ((1 : Int) = 0 ∧ 1 < kS (c 3) (c 6) w2.toInt)))))) := hw2
    obtain ⟨hw2, hr2_0⟩ := hw2
    have hr2_0 : 0 ≤ kS (c 3) (c 6) w2.toInt ∧ kS (c 3) (c 6) w2.toInt ≤ 5 ∧ ((r2.toInt = 1 ∧ (kS (c 3) (c 6) w2.toInt = 0 ∨ ((1 : Int) = 0 ∧ 1 < kS (c 3) (c 6) w2.toInt))) ∨ (r2.toInt = 0 ∧ ¬ (kS (c 3) (c 6) w2.toInt = 0 ∨ ((1 : Int) = 0 ∧ 1 < kS (c 3) (c 6) w2.toInt)))) := hr2_0
    refine lv_if_ne (tgt := 66) hx hb dX12_fitsRight_54 (by decide +kernel) (fun c3 => ?_) (fun c3 => ?_)
    · have f3 := mt (ti_eq (a := r2.toInt) (b := 0) rfl (by decide +kernel)).mpr c3
      refine lv_iconst (v := 1) hx hb dX12_fitsRight_66 (by decide +kernel) ?_
      refine lv_goto (tgt := 71) hx hb dX12_fitsRight_67 (by decide +kernel) ?_
      exact ro_zret hx hb hr hlocks hS rfl dX12_fitsRight_71 ⟨(show 0 ≤ (1 : Int32).toInt ∧ (1 : Int32).toInt ≤ 1 from by have h9 : (1 : Int32).toInt = 1 := (by decide +kernel); omega), (show Sm (1 : Int32) (FtR f.toInt (kS (c 3) (c 6) w2.toInt)) from sm_1 (by unfold FtR; omega))⟩
    · have f3 := (ti_eq (a := r2.toInt) (b := 0) rfl (by decide +kernel)).mp c3
      refine lv_aload_n hx hb dX12_fitsRight_57 rfl (lv_at hl 0 rfl) ?_
      refine lv_iload_n hx hb dX12_fitsRight_58 rfl (lv_at hl 2 rfl) ?_
      refine lv_iconst (v := 3) hx hb dX12_fitsRight_59 (by decide +kernel) ?_
      refine ro_calli (va_runV (As := [.int w2, .int 3]) (rest := []) ⟨hx, hb, hml, hown, hts⟩ (s_X12_isOf_e l D H.size o a t i q c d w2 3 hI (show 0 ≤ w2.toInt ∧ w2.toInt ≤ 29 from by have h91 : (3 : Int32).toInt = 3 := (by decide +kernel); omega) (show 0 ≤ 3 ∧ 3 ≤ 5 from by have h91 : (3 : Int32).toInt = 3 := (by decide +kernel); omega)) (cwV 2 hts gm_X12_fitsRight_X12_isOf rfl rfl rfl (by decide +kernel) ⟨Nat.le_of_ble_eq_true rfl, Nat.le_of_ble_eq_true rfl⟩) (pA_V hK hP (ci := 12) (q0 := 0) rfl rfl) rfl rfl hl.1 rfl (lv_room (Nat.le_of_ble_eq_true rfl)) dX12_fitsRight_60 ⟨Nat.le_of_ble_eq_true rfl, Nat.le_of_ble_eq_true rfl⟩) hS hA hP (fun r4 u4 H locs hw4 hP hS => ?_)
      have hw4 : ((0 ≤ r4.toInt ∧ r4.toInt ≤ 1) ∧ (0 ≤ kS (c 3) (c 6) w2.toInt ∧ kS (c 3) (c 6) w2.toInt ≤ 5 ∧ ((r4.toInt = 1 ∧ (kS (c 3) (c 6) w2.toInt = 3 ∨ ((1 : Int) = 3 ∧ 1 < kS (c 3) (c 6) w2.toInt))) ∨ (r4.toInt = 0 ∧ ¬ (kS (c 3) (c 6) w2.toInt = 3 ∨ ((1 : Int) = 3 ∧ 1 < kS (c 3) (c 6) w2.toInt)))))) := hw4
      obtain ⟨hw4, hr4_0⟩ := hw4
      have hr4_0 : 0 ≤ kS (c 3) (c 6) w2.toInt ∧ kS (c 3) (c 6) w2.toInt ≤ 5 ∧ ((r4.toInt = 1 ∧ (kS (c 3) (c 6) w2.toInt = 3 ∨ ((1 : Int) = 3 ∧ 1 < kS (c 3) (c 6) w2.toInt))) ∨ (r4.toInt = 0 ∧ ¬ (kS (c 3) (c 6) w2.toInt = 3 ∨ ((1 : Int) = 3 ∧ 1 < kS (c 3) (c 6) w2.toInt)))) := hr4_0
      refine lv_if_eq (tgt := 70) hx hb dX12_fitsRight_63 (by decide +kernel) (fun c5 => ?_) (fun c5 => ?_)
      · have f5 := (ti_eq (a := r4.toInt) (b := 0) rfl (by decide +kernel)).mp c5
        refine lv_iconst (v := 0) hx hb dX12_fitsRight_70 (by decide +kernel) ?_
        exact ro_zret hx hb hr hlocks hS rfl dX12_fitsRight_71 ⟨(show 0 ≤ (0 : Int32).toInt ∧ (0 : Int32).toInt ≤ 1 from by have h9 : (0 : Int32).toInt = 0 := (by decide +kernel); omega), (show Sm (0 : Int32) (FtR f.toInt (kS (c 3) (c 6) w2.toInt)) from sm_0 (by unfold FtR; omega))⟩
      · have f5 := mt (ti_eq (a := r4.toInt) (b := 0) rfl (by decide +kernel)).mpr c5
        refine lv_iconst (v := 1) hx hb dX12_fitsRight_66 (by decide +kernel) ?_
        refine lv_goto (tgt := 71) hx hb dX12_fitsRight_67 (by decide +kernel) ?_
        exact ro_zret hx hb hr hlocks hS rfl dX12_fitsRight_71 ⟨(show 0 ≤ (1 : Int32).toInt ∧ (1 : Int32).toInt ≤ 1 from by have h9 : (1 : Int32).toInt = 1 := (by decide +kernel); omega), (show Sm (1 : Int32) (FtR f.toInt (kS (c 3) (c 6) w2.toInt)) from sm_1 (by unfold FtR; omega))⟩
  · refine lv_tableIn (off := 71) (tgt := 72) hx hb dX12_fitsRight_1 (by omega) (by omega) (by rw [f1]; rfl) (by decide +kernel) ?_
    refine lv_aload_n hx hb dX12_fitsRight_72 rfl (lv_at hl 0 rfl) ?_
    refine lv_iload_n hx hb dX12_fitsRight_73 rfl (lv_at hl 2 rfl) ?_
    refine lv_iconst (v := 4) hx hb dX12_fitsRight_74 (by decide +kernel) ?_
    refine ro_calli (va_runV (As := [.int w2, .int 4]) (rest := []) ⟨hx, hb, hml, hown, hts⟩ (s_X12_isOf_e l D s.heap.size o a t i q c d w2 4 hI (show 0 ≤ w2.toInt ∧ w2.toInt ≤ 29 from by have h91 : (4 : Int32).toInt = 4 := (by decide +kernel); omega) (show 0 ≤ 4 ∧ 4 ≤ 5 from by have h91 : (4 : Int32).toInt = 4 := (by decide +kernel); omega)) (cwV 2 hts gm_X12_fitsRight_X12_isOf rfl rfl rfl (by decide +kernel) ⟨Nat.le_of_ble_eq_true rfl, Nat.le_of_ble_eq_true rfl⟩) (pA_V hK hP (ci := 12) (q0 := 0) rfl rfl) rfl rfl hl.1 rfl (lv_room (Nat.le_of_ble_eq_true rfl)) dX12_fitsRight_75 ⟨Nat.le_of_ble_eq_true rfl, Nat.le_of_ble_eq_true rfl⟩) hS hA hP (fun r6 u6 H locs hw6 hP hS => ?_)
    have hw6 : ((0 ≤ r6.toInt ∧ r6.toInt ≤ 1) ∧ (0 ≤ kS (c 3) (c 6) w2.toInt ∧ kS (c 3) (c 6) w2.toInt ≤ 5 ∧ ((r6.toInt = 1 ∧ (kS (c 3) (c 6) w2.toInt = 4 ∨ ((1 : Int) = 4 ∧ 1 < kS (c 3) (c 6) w2.toInt))) ∨ (r6.toInt = 0 ∧ ¬ (kS (c 3) (c 6) w2.toInt = 4 ∨ ((1 : Int) = 4 ∧ 1 < kS (c 3) (c 6) w2.toInt)))))) := hw6
    obtain ⟨hw6, hr6_0⟩ := hw6
    have hr6_0 : 0 ≤ kS (c 3) (c 6) w2.toInt ∧ kS (c 3) (c 6) w2.toInt ≤ 5 ∧ ((r6.toInt = 1 ∧ (kS (c 3) (c 6) w2.toInt = 4 ∨ ((1 : Int) = 4 ∧ 1 < kS (c 3) (c 6) w2.toInt))) ∨ (r6.toInt = 0 ∧ ¬ (kS (c 3) (c 6) w2.toInt = 4 ∨ ((1 : Int) = 4 ∧ 1 < kS (c 3) (c 6) w2.toInt)))) := hr6_0
    exact ro_zret hx hb hr hlocks hS (nb_n (show 0 ≤ r6.toInt ∧ r6.toInt ≤ 1 from by omega)) dX12_fitsRight_78 ⟨(show 0 ≤ r6.toInt ∧ r6.toInt ≤ 1 from by omega), (show Sm r6 (FtR f.toInt (kS (c 3) (c 6) w2.toInt)) from by unfold Sm FtR; omega)⟩
  · refine lv_tableIn (off := 78) (tgt := 79) hx hb dX12_fitsRight_1 (by omega) (by omega) (by rw [f1]; rfl) (by decide +kernel) ?_
    refine lv_aload_n hx hb dX12_fitsRight_79 rfl (lv_at hl 0 rfl) ?_
    refine lv_iload_n hx hb dX12_fitsRight_80 rfl (lv_at hl 2 rfl) ?_
    refine lv_iconst (v := 5) hx hb dX12_fitsRight_81 (by decide +kernel) ?_
    refine ro_calli (va_runV (As := [.int w2, .int 5]) (rest := []) ⟨hx, hb, hml, hown, hts⟩ (s_X12_isOf_e l D s.heap.size o a t i q c d w2 5 hI (show 0 ≤ w2.toInt ∧ w2.toInt ≤ 29 from by have h91 : (5 : Int32).toInt = 5 := (by decide +kernel); omega) (show 0 ≤ 5 ∧ 5 ≤ 5 from by have h91 : (5 : Int32).toInt = 5 := (by decide +kernel); omega)) (cwV 2 hts gm_X12_fitsRight_X12_isOf rfl rfl rfl (by decide +kernel) ⟨Nat.le_of_ble_eq_true rfl, Nat.le_of_ble_eq_true rfl⟩) (pA_V hK hP (ci := 12) (q0 := 0) rfl rfl) rfl rfl hl.1 rfl (lv_room (Nat.le_of_ble_eq_true rfl)) dX12_fitsRight_82 ⟨Nat.le_of_ble_eq_true rfl, Nat.le_of_ble_eq_true rfl⟩) hS hA hP (fun r7 u7 H locs hw7 hP hS => ?_)
    have hw7 : ((0 ≤ r7.toInt ∧ r7.toInt ≤ 1) ∧ (0 ≤ kS (c 3) (c 6) w2.toInt ∧ kS (c 3) (c 6) w2.toInt ≤ 5 ∧ ((r7.toInt = 1 ∧ (kS (c 3) (c 6) w2.toInt = 5 ∨ ((1 : Int) = 5 ∧ 1 < kS (c 3) (c 6) w2.toInt))) ∨ (r7.toInt = 0 ∧ ¬ (kS (c 3) (c 6) w2.toInt = 5 ∨ ((1 : Int) = 5 ∧ 1 < kS (c 3) (c 6) w2.toInt)))))) := hw7
    obtain ⟨hw7, hr7_0⟩ := hw7
    have hr7_0 : 0 ≤ kS (c 3) (c 6) w2.toInt ∧ kS (c 3) (c 6) w2.toInt ≤ 5 ∧ ((r7.toInt = 1 ∧ (kS (c 3) (c 6) w2.toInt = 5 ∨ ((1 : Int) = 5 ∧ 1 < kS (c 3) (c 6) w2.toInt))) ∨ (r7.toInt = 0 ∧ ¬ (kS (c 3) (c 6) w2.toInt = 5 ∨ ((1 : Int) = 5 ∧ 1 < kS (c 3) (c 6) w2.toInt)))) := hr7_0
    exact ro_zret hx hb hr hlocks hS (nb_n (show 0 ≤ r7.toInt ∧ r7.toInt ≤ 1 from by omega)) dX12_fitsRight_85 ⟨(show 0 ≤ r7.toInt ∧ r7.toInt ≤ 1 from by omega), (show Sm r7 (FtR f.toInt (kS (c 3) (c 6) w2.toInt)) from by unfold Sm FtR; omega)⟩
  · refine lv_tableIn (off := 78) (tgt := 79) hx hb dX12_fitsRight_1 (by omega) (by omega) (by rw [f1]; rfl) (by decide +kernel) ?_
    refine lv_aload_n hx hb dX12_fitsRight_79 rfl (lv_at hl 0 rfl) ?_
    refine lv_iload_n hx hb dX12_fitsRight_80 rfl (lv_at hl 2 rfl) ?_
    refine lv_iconst (v := 5) hx hb dX12_fitsRight_81 (by decide +kernel) ?_
    refine ro_calli (va_runV (As := [.int w2, .int 5]) (rest := []) ⟨hx, hb, hml, hown, hts⟩ (s_X12_isOf_e l D s.heap.size o a t i q c d w2 5 hI (show 0 ≤ w2.toInt ∧ w2.toInt ≤ 29 from by have h91 : (5 : Int32).toInt = 5 := (by decide +kernel); omega) (show 0 ≤ 5 ∧ 5 ≤ 5 from by have h91 : (5 : Int32).toInt = 5 := (by decide +kernel); omega)) (cwV 2 hts gm_X12_fitsRight_X12_isOf rfl rfl rfl (by decide +kernel) ⟨Nat.le_of_ble_eq_true rfl, Nat.le_of_ble_eq_true rfl⟩) (pA_V hK hP (ci := 12) (q0 := 0) rfl rfl) rfl rfl hl.1 rfl (lv_room (Nat.le_of_ble_eq_true rfl)) dX12_fitsRight_82 ⟨Nat.le_of_ble_eq_true rfl, Nat.le_of_ble_eq_true rfl⟩) hS hA hP (fun r8 u8 H locs hw8 hP hS => ?_)
    have hw8 : ((0 ≤ r8.toInt ∧ r8.toInt ≤ 1) ∧ (0 ≤ kS (c 3) (c 6) w2.toInt ∧ kS (c 3) (c 6) w2.toInt ≤ 5 ∧ ((r8.toInt = 1 ∧ (kS (c 3) (c 6) w2.toInt = 5 ∨ ((1 : Int) = 5 ∧ 1 < kS (c 3) (c 6) w2.toInt))) ∨ (r8.toInt = 0 ∧ ¬ (kS (c 3) (c 6) w2.toInt = 5 ∨ ((1 : Int) = 5 ∧ 1 < kS (c 3) (c 6) w2.toInt)))))) := hw8
    obtain ⟨hw8, hr8_0⟩ := hw8
    have hr8_0 : 0 ≤ kS (c 3) (c 6) w2.toInt ∧ kS (c 3) (c 6) w2.toInt ≤ 5 ∧ ((r8.toInt = 1 ∧ (kS (c 3) (c 6) w2.toInt = 5 ∨ ((1 : Int) = 5 ∧ 1 < kS (c 3) (c 6) w2.toInt))) ∨ (r8.toInt = 0 ∧ ¬ (kS (c 3) (c 6) w2.toInt = 5 ∨ ((1 : Int) = 5 ∧ 1 < kS (c 3) (c 6) w2.toInt)))) := hr8_0
    exact ro_zret hx hb hr hlocks hS (nb_n (show 0 ≤ r8.toInt ∧ r8.toInt ≤ 1 from by omega)) dX12_fitsRight_85 ⟨(show 0 ≤ r8.toInt ∧ r8.toInt ≤ 1 from by omega), (show Sm r8 (FtR f.toInt (kS (c 3) (c 6) w2.toInt)) from by unfold Sm FtR; omega)⟩
  · refine lv_tableIn (off := 85) (tgt := 86) hx hb dX12_fitsRight_1 (by omega) (by omega) (by rw [f1]; rfl) (by decide +kernel) ?_
    refine lv_aload_n hx hb dX12_fitsRight_86 rfl (lv_at hl 0 rfl) ?_
    refine lv_iload_n hx hb dX12_fitsRight_87 rfl (lv_at hl 2 rfl) ?_
    refine lv_iconst (v := 1) hx hb dX12_fitsRight_88 (by decide +kernel) ?_
    refine ro_calli (va_runV (As := [.int w2, .int 1]) (rest := []) ⟨hx, hb, hml, hown, hts⟩ (s_X12_isOf_e l D s.heap.size o a t i q c d w2 1 hI (show 0 ≤ w2.toInt ∧ w2.toInt ≤ 29 from by have h91 : (1 : Int32).toInt = 1 := (by decide +kernel); omega) (show 0 ≤ 1 ∧ 1 ≤ 5 from by have h91 : (1 : Int32).toInt = 1 := (by decide +kernel); omega)) (cwV 2 hts gm_X12_fitsRight_X12_isOf rfl rfl rfl (by decide +kernel) ⟨Nat.le_of_ble_eq_true rfl, Nat.le_of_ble_eq_true rfl⟩) (pA_V hK hP (ci := 12) (q0 := 0) rfl rfl) rfl rfl hl.1 rfl (lv_room (Nat.le_of_ble_eq_true rfl)) dX12_fitsRight_89 ⟨Nat.le_of_ble_eq_true rfl, Nat.le_of_ble_eq_true rfl⟩) hS hA hP (fun r9 u9 H locs hw9 hP hS => ?_)
    have hw9 : ((0 ≤ r9.toInt ∧ r9.toInt ≤ 1) ∧ (0 ≤ kS (c 3) (c 6) w2.toInt ∧ kS (c 3) (c 6) w2.toInt ≤ 5 ∧ ((r9.toInt = 1 ∧ (kS (c 3) (c 6) w2.toInt = 1 ∨ ((1 : Int) = 1 ∧ 1 < kS (c 3) (c 6) w2.toInt))) ∨ (r9.toInt = 0 ∧ ¬ (kS (c 3) (c 6) w2.toInt = 1 ∨ ((1 : Int) = 1 ∧ 1 < kS (c 3) (c 6) w2.toInt)))))) := hw9
    obtain ⟨hw9, hr9_0⟩ := hw9
    have hr9_0 : 0 ≤ kS (c 3) (c 6) w2.toInt ∧ kS (c 3) (c 6) w2.toInt ≤ 5 ∧ ((r9.toInt = 1 ∧ (kS (c 3) (c 6) w2.toInt = 1 ∨ ((1 : Int) = 1 ∧ 1 < kS (c 3) (c 6) w2.toInt))) ∨ (r9.toInt = 0 ∧ ¬ (kS (c 3) (c 6) w2.toInt = 1 ∨ ((1 : Int) = 1 ∧ 1 < kS (c 3) (c 6) w2.toInt)))) := hr9_0
    exact ro_zret hx hb hr hlocks hS (nb_n (show 0 ≤ r9.toInt ∧ r9.toInt ≤ 1 from by omega)) dX12_fitsRight_92 ⟨(show 0 ≤ r9.toInt ∧ r9.toInt ≤ 1 from by omega), (show Sm r9 (FtR f.toInt (kS (c 3) (c 6) w2.toInt)) from by unfold Sm FtR; omega)⟩
  · refine lv_tableIn (off := 92) (tgt := 93) hx hb dX12_fitsRight_1 (by omega) (by omega) (by rw [f1]; rfl) (by decide +kernel) ?_
    refine lv_aload_n hx hb dX12_fitsRight_93 rfl (lv_at hl 0 rfl) ?_
    refine lv_iload_n hx hb dX12_fitsRight_94 rfl (lv_at hl 2 rfl) ?_
    refine lv_iconst (v := 0) hx hb dX12_fitsRight_95 (by decide +kernel) ?_
    refine ro_calli (va_runV (As := [.int w2, .int 0]) (rest := []) ⟨hx, hb, hml, hown, hts⟩ (s_X12_isOf_e l D s.heap.size o a t i q c d w2 0 hI (show 0 ≤ w2.toInt ∧ w2.toInt ≤ 29 from by have h91 : (0 : Int32).toInt = 0 := (by decide +kernel); omega) (show 0 ≤ 0 ∧ 0 ≤ 5 from by have h91 : (0 : Int32).toInt = 0 := (by decide +kernel); omega)) (cwV 2 hts gm_X12_fitsRight_X12_isOf rfl rfl rfl (by decide +kernel) ⟨Nat.le_of_ble_eq_true rfl, Nat.le_of_ble_eq_true rfl⟩) (pA_V hK hP (ci := 12) (q0 := 0) rfl rfl) rfl rfl hl.1 rfl (lv_room (Nat.le_of_ble_eq_true rfl)) dX12_fitsRight_96 ⟨Nat.le_of_ble_eq_true rfl, Nat.le_of_ble_eq_true rfl⟩) hS hA hP (fun r10 u10 H locs hw10 hP hS => ?_)
    have hw10 : ((0 ≤ r10.toInt ∧ r10.toInt ≤ 1) ∧ (0 ≤ kS (c 3) (c 6) w2.toInt ∧ kS (c 3) (c 6) w2.toInt ≤ 5 ∧ ((r10.toInt = 1 ∧ (kS (c 3) (c 6) w2.toInt = 0 ∨ ((1 : Int) = 0 ∧ 1 < kS (c 3) (c 6) w2.toInt))) ∨ (r10.toInt = 0 ∧ ¬ (kS (c 3) (c 6) w2.toInt = 0 ∨ ((1 : Int) = 0 ∧ 1 < kS (c 3) (c 6) w2.toInt)))))) := hw10
    obtain ⟨hw10, hr10_0⟩ := hw10
    have hr10_0 : 0 ≤ kS (c 3) (c 6) w2.toInt ∧ kS (c 3) (c 6) w2.toInt ≤ 5 ∧ ((r10.toInt = 1 ∧ (kS (c 3) (c 6) w2.toInt = 0 ∨ ((1 : Int) = 0 ∧ 1 < kS (c 3) (c 6) w2.toInt))) ∨ (r10.toInt = 0 ∧ ¬ (kS (c 3) (c 6) w2.toInt = 0 ∨ ((1 : Int) = 0 ∧ 1 < kS (c 3) (c 6) w2.toInt)))) := hr10_0
    refine lv_if_ne (tgt := 111) hx hb dX12_fitsRight_99 (by decide +kernel) (fun c11 => ?_) (fun c11 => ?_)
    · have f11 := mt (ti_eq (a := r10.toInt) (b := 0) rfl (by decide +kernel)).mpr c11
      refine lv_iconst (v := 1) hx hb dX12_fitsRight_111 (by decide +kernel) ?_
      refine lv_goto (tgt := 116) hx hb dX12_fitsRight_112 (by decide +kernel) ?_
      exact ro_zret hx hb hr hlocks hS rfl dX12_fitsRight_116 ⟨(show 0 ≤ (1 : Int32).toInt ∧ (1 : Int32).toInt ≤ 1 from by have h9 : (1 : Int32).toInt = 1 := (by decide +kernel); omega), (show Sm (1 : Int32) (FtR f.toInt (kS (c 3) (c 6) w2.toInt)) from sm_1 (by unfold FtR; omega))⟩
    · have f11 := (ti_eq (a := r10.toInt) (b := 0) rfl (by decide +kernel)).mp c11
      refine lv_aload_n hx hb dX12_fitsRight_102 rfl (lv_at hl 0 rfl) ?_
      refine lv_iload_n hx hb dX12_fitsRight_103 rfl (lv_at hl 2 rfl) ?_
      refine lv_iconst (v := 2) hx hb dX12_fitsRight_104 (by decide +kernel) ?_
      refine ro_calli (va_runV (As := [.int w2, .int 2]) (rest := []) ⟨hx, hb, hml, hown, hts⟩ (s_X12_isOf_e l D H.size o a t i q c d w2 2 hI (show 0 ≤ w2.toInt ∧ w2.toInt ≤ 29 from by have h91 : (2 : Int32).toInt = 2 := (by decide +kernel); omega) (show 0 ≤ 2 ∧ 2 ≤ 5 from by have h91 : (2 : Int32).toInt = 2 := (by decide +kernel); omega)) (cwV 2 hts gm_X12_fitsRight_X12_isOf rfl rfl rfl (by decide +kernel) ⟨Nat.le_of_ble_eq_true rfl, Nat.le_of_ble_eq_true rfl⟩) (pA_V hK hP (ci := 12) (q0 := 0) rfl rfl) rfl rfl hl.1 rfl (lv_room (Nat.le_of_ble_eq_true rfl)) dX12_fitsRight_105 ⟨Nat.le_of_ble_eq_true rfl, Nat.le_of_ble_eq_true rfl⟩) hS hA hP (fun r12 u12 H locs hw12 hP hS => ?_)
      have hw12 : ((0 ≤ r12.toInt ∧ r12.toInt ≤ 1) ∧ (0 ≤ kS (c 3) (c 6) w2.toInt ∧ kS (c 3) (c 6) w2.toInt ≤ 5 ∧ ((r12.toInt = 1 ∧ (kS (c 3) (c 6) w2.toInt = 2 ∨ ((1 : Int) = 2 ∧ 1 < kS (c 3) (c 6) w2.toInt))) ∨ (r12.toInt = 0 ∧ ¬ (kS (c 3) (c 6) w2.toInt = 2 ∨ ((1 : Int) = 2 ∧ 1 < kS (c 3) (c 6) w2.toInt)))))) := hw12
      obtain ⟨hw12, hr12_0⟩ := hw12
      have hr12_0 : 0 ≤ kS (c 3) (c 6) w2.toInt ∧ kS (c 3) (c 6) w2.toInt ≤ 5 ∧ ((r12.toInt = 1 ∧ (kS (c 3) (c 6) w2.toInt = 2 ∨ ((1 : Int) = 2 ∧ 1 < kS (c 3) (c 6) w2.toInt))) ∨ (r12.toInt = 0 ∧ ¬ (kS (c 3) (c 6) w2.toInt = 2 ∨ ((1 : Int) = 2 ∧ 1 < kS (c 3) (c 6) w2.toInt)))) := hr12_0
      refine lv_if_eq (tgt := 115) hx hb dX12_fitsRight_108 (by decide +kernel) (fun c13 => ?_) (fun c13 => ?_)
      · have f13 := (ti_eq (a := r12.toInt) (b := 0) rfl (by decide +kernel)).mp c13
        refine lv_iconst (v := 0) hx hb dX12_fitsRight_115 (by decide +kernel) ?_
        exact ro_zret hx hb hr hlocks hS rfl dX12_fitsRight_116 ⟨(show 0 ≤ (0 : Int32).toInt ∧ (0 : Int32).toInt ≤ 1 from by have h9 : (0 : Int32).toInt = 0 := (by decide +kernel); omega), (show Sm (0 : Int32) (FtR f.toInt (kS (c 3) (c 6) w2.toInt)) from sm_0 (by unfold FtR; omega))⟩
      · have f13 := mt (ti_eq (a := r12.toInt) (b := 0) rfl (by decide +kernel)).mpr c13
        refine lv_iconst (v := 1) hx hb dX12_fitsRight_111 (by decide +kernel) ?_
        refine lv_goto (tgt := 116) hx hb dX12_fitsRight_112 (by decide +kernel) ?_
        exact ro_zret hx hb hr hlocks hS rfl dX12_fitsRight_116 ⟨(show 0 ≤ (1 : Int32).toInt ∧ (1 : Int32).toInt ≤ 1 from by have h9 : (1 : Int32).toInt = 1 := (by decide +kernel); omega), (show Sm (1 : Int32) (FtR f.toInt (kS (c 3) (c 6) w2.toInt)) from sm_1 (by unfold FtR; omega))⟩
  · refine lv_tableIn (off := 122) (tgt := 123) hx hb dX12_fitsRight_1 (by omega) (by omega) (by rw [f1]; rfl) (by decide +kernel) ?_
    refine lv_iconst (v := 1) hx hb dX12_fitsRight_123 (by decide +kernel) ?_
    exact ro_zret hx hb hr hlocks hS rfl dX12_fitsRight_124 ⟨(show 0 ≤ (1 : Int32).toInt ∧ (1 : Int32).toInt ≤ 1 from by have h9 : (1 : Int32).toInt = 1 := (by decide +kernel); omega), (show Sm (1 : Int32) (FtR f.toInt (kS (c 3) (c 6) w2.toInt)) from sm_1 (by unfold FtR; omega))⟩
  · refine lv_tableIn (off := 116) (tgt := 117) hx hb dX12_fitsRight_1 (by omega) (by omega) (by rw [f1]; rfl) (by decide +kernel) ?_
    refine lv_aload_n hx hb dX12_fitsRight_117 rfl (lv_at hl 0 rfl) ?_
    refine lv_iload_n hx hb dX12_fitsRight_118 rfl (lv_at hl 2 rfl) ?_
    refine ro_calli (va_runV (As := [.int w2]) (rest := []) ⟨hx, hb, hml, hown, hts⟩ (s_X12_isShutter_e l D s.heap.size o a t i q c d w2 hI (show 0 ≤ w2.toInt ∧ w2.toInt ≤ 29 from by omega)) (cwV 1 hts gm_X12_fitsRight_X12_isShutter rfl rfl rfl (by decide +kernel) ⟨Nat.le_of_ble_eq_true rfl, Nat.le_of_ble_eq_true rfl⟩) (pA_V hK hP (ci := 12) (q0 := 0) rfl rfl) rfl rfl hl.1 rfl (lv_room (Nat.le_of_ble_eq_true rfl)) dX12_fitsRight_119 ⟨Nat.le_of_ble_eq_true rfl, Nat.le_of_ble_eq_true rfl⟩) hS hA hP (fun r14 u14 H locs hw14 hP hS => ?_)
    have hw14 : (0 ≤ kS (c 3) (c 6) w2.toInt ∧ kS (c 3) (c 6) w2.toInt ≤ 5 ∧ ((r14.toInt = 1 ∧ (kS (c 3) (c 6) w2.toInt = 2 ∨ kS (c 3) (c 6) w2.toInt = 3)) ∨ (r14.toInt = 0 ∧ ¬ (kS (c 3) (c 6) w2.toInt = 2 ∨ kS (c 3) (c 6) w2.toInt = 3)))) := hw14
    exact ro_zret hx hb hr hlocks hS (nb_n (show 0 ≤ r14.toInt ∧ r14.toInt ≤ 1 from by omega)) dX12_fitsRight_122 ⟨(show 0 ≤ r14.toInt ∧ r14.toInt ≤ 1 from by omega), (show Sm r14 (FtR f.toInt (kS (c 3) (c 6) w2.toInt)) from by unfold Sm FtR; omega)⟩

set_option maxHeartbeats 4000000 in
set_option maxRecDepth 100000 in
theorem s_X12_areNumbers_e (l : Launch) (D : va_G) (sz : Nat) (o : Nat) (a : Nat → Nat) (t : Nat → ClassId) (i : Nat → Int32) (q : Int64) (c : Nat → Nat → Int32) (d : Nat → Nat → Int64) (f : Int32) (w1 : Int32) (w2 : Int32) (w3 : Int32) (hI : mInv i c) (hf : 0 ≤ f.toInt ∧ f.toInt ≤ 7) : Met l yX12_areNumbers wm_X12_areNumbers ({ frames := 2, cells := 0, slots := 0, locals := 46 }) (va_Pc [.ref o, .int f, .int w1, .int w2, .int w3] (pA D sz (mW o a t i q c d) (mT t))) (va_Qi (fun (r : Int32) (_ : Unit) => ((0 ≤ r.toInt ∧ r.toInt ≤ 1) ∧ (Sm r (WF f.toInt w1.toInt w2.toInt w3.toInt (i 5).toInt)))) oA (ro sz)) 0 0 (ro sz) := by
  refine Met.ofW (cc := cX12_areNumbers) (maxL := 5) (ret := (some .boolean)) (by decide +kernel) rfl ?_
  intro p e s m args below meth cd s₁ B hml hv
  obtain ⟨rfl, hsz, hP, hK⟩ := hv
  have hx := B.exec
  have hb := B.bytes
  have hr := B.returns
  have hts := atoms_spec (ws := wm_X12_areNumbers) B.pre
  have hown : s.vm.findClass RX12 = some m.cls := findClass_of_methodNamed B.named
  have hlocks := B.notSynchronized
  subst hsz
  have hA : ∀ q : Nat, s.heap.size ≤ q → ro s.heap.size q := fun _ h => h
  have hS : va_S (ro s.heap.size) s.heap s.heap [] := va_S.rf
  have hl := lv_entry ([.ref o, .int f, .int w1, .int w2, .int w3]) (n := 5) (Nat.le_of_ble_eq_true rfl)
  rw [lg_entry_eq]
  generalize (lg_sl ([.ref o, .int f, .int w1, .int w2, .int w3]) ++ List.replicate (5 - (lg_sl ([.ref o, .int f, .int w1, .int w2, .int w3])).length) Slot.unset).toArray = ls at hl ⊢
  have hl : lv_has ls 5 [(0, .ref o), (1, .int f), (2, .int w1), (3, .int w2), (4, .int w3)] := hl
  refine lv_iload_n hx hb dX12_areNumbers_0 rfl (lv_at hl 1 rfl) ?_
  refine lv_bipush (v := 6) hx hb dX12_areNumbers_1 (by decide +kernel) ?_
  refine lv_icmp_ne (tgt := 43) hx hb dX12_areNumbers_3 (by decide +kernel) (fun c1 => ?_) (fun c1 => ?_)
  · have f1 := mt (ti_eq (a := f.toInt) (b := 6) rfl (by decide +kernel)).mpr c1
    refine lv_aload_n hx hb dX12_areNumbers_43 rfl (lv_at hl 0 rfl) ?_
    refine lv_iload_n hx hb dX12_areNumbers_44 rfl (lv_at hl 2 rfl) ?_
    have rb5_i : 0 ≤ (i 5).toInt ∧ (i 5).toInt ≤ 30 := hI.1 5
    refine ro_calli (va_runV (As := [.int w1]) (rest := []) ⟨hx, hb, hml, hown, hts⟩ (s_X12_isObject l D s.heap.size o a t i q c d w1 hI ) (cwV 1 hts gm_X12_areNumbers_X12_isObject rfl rfl rfl (by decide +kernel) ⟨Nat.le_of_ble_eq_true rfl, Nat.le_of_ble_eq_true rfl⟩) (pA_V hK hP (ci := 12) (q0 := 0) rfl rfl) rfl rfl hl.1 rfl (lv_room (Nat.le_of_ble_eq_true rfl)) dX12_areNumbers_45 ⟨Nat.le_of_ble_eq_true rfl, Nat.le_of_ble_eq_true rfl⟩) hS hA hP (fun r2 u2 H locs hw2 hP hS => ?_)
    have hw2 : r2 = if (0 ≤ w1.toInt ∧ w1.toInt ≤ (i 5).toInt - 1) then 1 else 0 := hw2
    refine lv_if_eq (tgt := 81) hx hb dX12_areNumbers_48 (by decide +kernel) (fun c3 => ?_) (fun c3 => ?_)
    · have f3 := fl_f hw2 c3
      refine lv_iconst (v := 0) hx hb dX12_areNumbers_81 (by decide +kernel) ?_
      exact ro_zret hx hb hr hlocks hS rfl dX12_areNumbers_82 ⟨(show 0 ≤ (0 : Int32).toInt ∧ (0 : Int32).toInt ≤ 1 from by have h9 : (0 : Int32).toInt = 0 := (by decide +kernel); omega), (show Sm (0 : Int32) (WF f.toInt w1.toInt w2.toInt w3.toInt (i 5).toInt) from sm_0 (by unfold WF; omega))⟩
    · have f3 := fl_t hw2 c3
      refine lv_aload_n hx hb dX12_areNumbers_51 rfl (lv_at hl 0 rfl) ?_
      refine lv_iload_n hx hb dX12_areNumbers_52 rfl (lv_at hl 3 rfl) ?_
      refine ro_calli (va_runV (As := [.int w2]) (rest := []) ⟨hx, hb, hml, hown, hts⟩ (s_X12_isObject l D H.size o a t i q c d w2 hI ) (cwV 1 hts gm_X12_areNumbers_X12_isObject rfl rfl rfl (by decide +kernel) ⟨Nat.le_of_ble_eq_true rfl, Nat.le_of_ble_eq_true rfl⟩) (pA_V hK hP (ci := 12) (q0 := 0) rfl rfl) rfl rfl hl.1 rfl (lv_room (Nat.le_of_ble_eq_true rfl)) dX12_areNumbers_53 ⟨Nat.le_of_ble_eq_true rfl, Nat.le_of_ble_eq_true rfl⟩) hS hA hP (fun r4 u4 H locs hw4 hP hS => ?_)
      have hw4 : r4 = if (0 ≤ w2.toInt ∧ w2.toInt ≤ (i 5).toInt - 1) then 1 else 0 := hw4
      refine lv_if_eq (tgt := 81) hx hb dX12_areNumbers_56 (by decide +kernel) (fun c5 => ?_) (fun c5 => ?_)
      · have f5 := fl_f hw4 c5
        refine lv_iconst (v := 0) hx hb dX12_areNumbers_81 (by decide +kernel) ?_
        exact ro_zret hx hb hr hlocks hS rfl dX12_areNumbers_82 ⟨(show 0 ≤ (0 : Int32).toInt ∧ (0 : Int32).toInt ≤ 1 from by have h9 : (0 : Int32).toInt = 0 := (by decide +kernel); omega), (show Sm (0 : Int32) (WF f.toInt w1.toInt w2.toInt w3.toInt (i 5).toInt) from sm_0 (by unfold WF; omega))⟩
      · have f5 := fl_t hw4 c5
        refine lv_iload_n hx hb dX12_areNumbers_59 rfl (lv_at hl 1 rfl) ?_
        refine lv_iconst (v := 5) hx hb dX12_areNumbers_60 (by decide +kernel) ?_
        refine lv_icmp_ne (tgt := 77) hx hb dX12_areNumbers_61 (by decide +kernel) (fun c6 => ?_) (fun c6 => ?_)
        · have f6 := mt (ti_eq (a := f.toInt) (b := 5) rfl (by decide +kernel)).mpr c6
          refine lv_iconst (v := 1) hx hb dX12_areNumbers_77 (by decide +kernel) ?_
          refine lv_goto (tgt := 82) hx hb dX12_areNumbers_78 (by decide +kernel) ?_
          exact ro_zret hx hb hr hlocks hS rfl dX12_areNumbers_82 ⟨(show 0 ≤ (1 : Int32).toInt ∧ (1 : Int32).toInt ≤ 1 from by have h9 : (1 : Int32).toInt = 1 := (by decide +kernel); omega), (show Sm (1 : Int32) (WF f.toInt w1.toInt w2.toInt w3.toInt (i 5).toInt) from sm_1 (by unfold WF; omega))⟩
        · have f6 := (ti_eq (a := f.toInt) (b := 5) rfl (by decide +kernel)).mp c6
          refine lv_iload hx hb dX12_areNumbers_64 (lv_at hl 4 rfl) ?_
          refine lv_i2l (v := w3.toInt64) hx hb dX12_areNumbers_66 rfl ?_
          refine lv_lconst (v := 0) hx hb dX12_areNumbers_67 (by decide +kernel) ?_
          refine lv_ldc2 (v := 9) hx hb hown (hts (.constantLong RX12 197 (9)) (List.mem_cons_of_mem _ (List.mem_append_left _ (List.mem_of_getElem? (i := 9) rfl)))) dX12_areNumbers_68 ?_
          have hPc := hP.sub (ws' := []) [] rfl
          have hKc := hK.sub (tys' := []) [] rfl
          refine ro_calli (va_runS (As := [.long w3.toInt64, .long 0, .long 9]) (rest := []) ⟨hx, hb, hml, hown, hts⟩ (c_X12_in l D H.size w3.toInt64 0 9 w3.toInt 0 9 ((Int32.toInt_toInt64 w3).trans rfl) (by decide +kernel) (by decide +kernel)) (va_cwS 3 hts gm_X12_areNumbers_X12_in rfl rfl rfl (by decide +kernel) ⟨Nat.le_of_ble_eq_true rfl, Nat.le_of_ble_eq_true rfl⟩) (pA_S hKc hPc) rfl rfl hl.1 rfl (lv_room (Nat.le_of_ble_eq_true rfl)) dX12_areNumbers_71 ⟨Nat.le_of_ble_eq_true rfl, Nat.le_of_ble_eq_true rfl⟩) hS hA hP (fun r7 u7 H locs hw7 hP hS => ?_)
          have hw7 : r7 = if (0 ≤ w3.toInt ∧ w3.toInt ≤ 9) then 1 else 0 := hw7
          refine lv_if_eq (tgt := 81) hx hb dX12_areNumbers_74 (by decide +kernel) (fun c8 => ?_) (fun c8 => ?_)
          · have f8 := fl_f hw7 c8
            refine lv_iconst (v := 0) hx hb dX12_areNumbers_81 (by decide +kernel) ?_
            exact ro_zret hx hb hr hlocks hS rfl dX12_areNumbers_82 ⟨(show 0 ≤ (0 : Int32).toInt ∧ (0 : Int32).toInt ≤ 1 from by have h9 : (0 : Int32).toInt = 0 := (by decide +kernel); omega), (show Sm (0 : Int32) (WF f.toInt w1.toInt w2.toInt w3.toInt (i 5).toInt) from sm_0 (by unfold WF; omega))⟩
          · have f8 := fl_t hw7 c8
            refine lv_iconst (v := 1) hx hb dX12_areNumbers_77 (by decide +kernel) ?_
            refine lv_goto (tgt := 82) hx hb dX12_areNumbers_78 (by decide +kernel) ?_
            exact ro_zret hx hb hr hlocks hS rfl dX12_areNumbers_82 ⟨(show 0 ≤ (1 : Int32).toInt ∧ (1 : Int32).toInt ≤ 1 from by have h9 : (1 : Int32).toInt = 1 := (by decide +kernel); omega), (show Sm (1 : Int32) (WF f.toInt w1.toInt w2.toInt w3.toInt (i 5).toInt) from sm_1 (by unfold WF; omega))⟩
  · have f1 := (ti_eq (a := f.toInt) (b := 6) rfl (by decide +kernel)).mp c1
    refine lv_aload_n hx hb dX12_areNumbers_6 rfl (lv_at hl 0 rfl) ?_
    refine lv_iload_n hx hb dX12_areNumbers_7 rfl (lv_at hl 2 rfl) ?_
    have rb5_i : 0 ≤ (i 5).toInt ∧ (i 5).toInt ≤ 30 := hI.1 5
    refine ro_calli (va_runV (As := [.int w1]) (rest := []) ⟨hx, hb, hml, hown, hts⟩ (s_X12_isObject l D s.heap.size o a t i q c d w1 hI ) (cwV 1 hts gm_X12_areNumbers_X12_isObject rfl rfl rfl (by decide +kernel) ⟨Nat.le_of_ble_eq_true rfl, Nat.le_of_ble_eq_true rfl⟩) (pA_V hK hP (ci := 12) (q0 := 0) rfl rfl) rfl rfl hl.1 rfl (lv_room (Nat.le_of_ble_eq_true rfl)) dX12_areNumbers_8 ⟨Nat.le_of_ble_eq_true rfl, Nat.le_of_ble_eq_true rfl⟩) hS hA hP (fun r9 u9 H locs hw9 hP hS => ?_)
    have hw9 : r9 = if (0 ≤ w1.toInt ∧ w1.toInt ≤ (i 5).toInt - 1) then 1 else 0 := hw9
    refine lv_if_eq (tgt := 41) hx hb dX12_areNumbers_11 (by decide +kernel) (fun c10 => ?_) (fun c10 => ?_)
    · have f10 := fl_f hw9 c10
      refine lv_iconst (v := 0) hx hb dX12_areNumbers_41 (by decide +kernel) ?_
      exact ro_zret hx hb hr hlocks hS rfl dX12_areNumbers_42 ⟨(show 0 ≤ (0 : Int32).toInt ∧ (0 : Int32).toInt ≤ 1 from by have h9 : (0 : Int32).toInt = 0 := (by decide +kernel); omega), (show Sm (0 : Int32) (WF f.toInt w1.toInt w2.toInt w3.toInt (i 5).toInt) from sm_0 (by unfold WF; omega))⟩
    · have f10 := fl_t hw9 c10
      refine lv_iload_n hx hb dX12_areNumbers_14 rfl (lv_at hl 3 rfl) ?_
      refine lv_i2l (v := w2.toInt64) hx hb dX12_areNumbers_15 rfl ?_
      refine lv_lconst (v := 0) hx hb dX12_areNumbers_16 (by decide +kernel) ?_
      refine lv_ldc2 (v := 5) hx hb hown (hts (.constantLong RX12 170 (5)) (List.mem_cons_of_mem _ (List.mem_append_left _ (List.mem_of_getElem? (i := 10) rfl)))) dX12_areNumbers_17 ?_
      have hPc := hP.sub (ws' := []) [] rfl
      have hKc := hK.sub (tys' := []) [] rfl
      refine ro_calli (va_runS (As := [.long w2.toInt64, .long 0, .long 5]) (rest := []) ⟨hx, hb, hml, hown, hts⟩ (c_X12_in l D H.size w2.toInt64 0 5 w2.toInt 0 5 ((Int32.toInt_toInt64 w2).trans rfl) (by decide +kernel) (by decide +kernel)) (va_cwS 3 hts gm_X12_areNumbers_X12_in rfl rfl rfl (by decide +kernel) ⟨Nat.le_of_ble_eq_true rfl, Nat.le_of_ble_eq_true rfl⟩) (pA_S hKc hPc) rfl rfl hl.1 rfl (lv_room (Nat.le_of_ble_eq_true rfl)) dX12_areNumbers_20 ⟨Nat.le_of_ble_eq_true rfl, Nat.le_of_ble_eq_true rfl⟩) hS hA hP (fun r11 u11 H locs hw11 hP hS => ?_)
      have hw11 : r11 = if (0 ≤ w2.toInt ∧ w2.toInt ≤ 5) then 1 else 0 := hw11
      refine lv_if_eq (tgt := 41) hx hb dX12_areNumbers_23 (by decide +kernel) (fun c12 => ?_) (fun c12 => ?_)
      · have f12 := fl_f hw11 c12
        refine lv_iconst (v := 0) hx hb dX12_areNumbers_41 (by decide +kernel) ?_
        exact ro_zret hx hb hr hlocks hS rfl dX12_areNumbers_42 ⟨(show 0 ≤ (0 : Int32).toInt ∧ (0 : Int32).toInt ≤ 1 from by have h9 : (0 : Int32).toInt = 0 := (by decide +kernel); omega), (show Sm (0 : Int32) (WF f.toInt w1.toInt w2.toInt w3.toInt (i 5).toInt) from sm_0 (by unfold WF; omega))⟩
      · have f12 := fl_t hw11 c12
        refine lv_iload hx hb dX12_areNumbers_26 (lv_at hl 4 rfl) ?_
        refine lv_i2l (v := w3.toInt64) hx hb dX12_areNumbers_28 rfl ?_
        refine lv_lconst (v := 0) hx hb dX12_areNumbers_29 (by decide +kernel) ?_
        refine lv_lconst (v := 1) hx hb dX12_areNumbers_30 (by decide +kernel) ?_
        have hPc := hP.sub (ws' := []) [] rfl
        have hKc := hK.sub (tys' := []) [] rfl
        refine ro_calli (va_runS (As := [.long w3.toInt64, .long 0, .long 1]) (rest := []) ⟨hx, hb, hml, hown, hts⟩ (c_X12_in l D H.size w3.toInt64 0 1 w3.toInt 0 1 ((Int32.toInt_toInt64 w3).trans rfl) (by decide +kernel) (by decide +kernel)) (va_cwS 3 hts gm_X12_areNumbers_X12_in rfl rfl rfl (by decide +kernel) ⟨Nat.le_of_ble_eq_true rfl, Nat.le_of_ble_eq_true rfl⟩) (pA_S hKc hPc) rfl rfl hl.1 rfl (lv_room (Nat.le_of_ble_eq_true rfl)) dX12_areNumbers_31 ⟨Nat.le_of_ble_eq_true rfl, Nat.le_of_ble_eq_true rfl⟩) hS hA hP (fun r13 u13 H locs hw13 hP hS => ?_)
        have hw13 : r13 = if (0 ≤ w3.toInt ∧ w3.toInt ≤ 1) then 1 else 0 := hw13
        refine lv_if_eq (tgt := 41) hx hb dX12_areNumbers_34 (by decide +kernel) (fun c14 => ?_) (fun c14 => ?_)
        · have f14 := fl_f hw13 c14
          refine lv_iconst (v := 0) hx hb dX12_areNumbers_41 (by decide +kernel) ?_
          exact ro_zret hx hb hr hlocks hS rfl dX12_areNumbers_42 ⟨(show 0 ≤ (0 : Int32).toInt ∧ (0 : Int32).toInt ≤ 1 from by have h9 : (0 : Int32).toInt = 0 := (by decide +kernel); omega), (show Sm (0 : Int32) (WF f.toInt w1.toInt w2.toInt w3.toInt (i 5).toInt) from sm_0 (by unfold WF; omega))⟩
        · have f14 := fl_t hw13 c14
          refine lv_iconst (v := 1) hx hb dX12_areNumbers_37 (by decide +kernel) ?_
          refine lv_goto (tgt := 42) hx hb dX12_areNumbers_38 (by decide +kernel) ?_
          exact ro_zret hx hb hr hlocks hS rfl dX12_areNumbers_42 ⟨(show 0 ≤ (1 : Int32).toInt ∧ (1 : Int32).toInt ≤ 1 from by have h9 : (1 : Int32).toInt = 1 := (by decide +kernel); omega), (show Sm (1 : Int32) (WF f.toInt w1.toInt w2.toInt w3.toInt (i 5).toInt) from sm_1 (by unfold WF; omega))⟩

