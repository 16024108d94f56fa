def wm_X7_startFrom_eS : List Cond := .code yX7_startFrom cX7_startFrom 3 none :: (([.fieldLink RX7 65 "TalePlay$Scene" "cells" "[I", .fieldLink RX7 39 "TalePlay$Seeker" "scene" "LTalePlay$Scene;", .methodLink RX7 68 arraycopyName, .native arraycopyName, .static arraycopyName, .initialized "java/lang/System", .fieldLink RX7 57 "TalePlay$Seeker" "acts" "LTalePlay$Acts;", .fieldLink RX7 74 "TalePlay$Acts" "player" "I"] : List Cond) ++ wsX60 ++ wsX70 ++ wsX00)
set_option maxHeartbeats 4000000 in
set_option maxRecDepth 100000 in
theorem x_X7_startFrom_eS (l : Launch) (D : va_G) (sz : Nat) (a : Nat → Nat) (t : Nat → ClassId) (i : Nat → Int32) (q : Int64) (c : Nat → Nat → Int32) (d : Nat → Nat → Int64) (w : Int32) (hI : xInv i c) (hw : 0 ≤ w.toInt ∧ w.toInt ≤ 29) (hPS : PS (c 150) w) : Met l yX7_startFrom wm_X7_startFrom_eS ({ frames := 1, cells := 0, slots := 0, locals := 40 }) (va_Pc [.ref (a 166), .ref (a 149), .int w] (yB (a 186) D sz (xwU (.ref (a 166)) a t i q c d) (xtU t))) (va_Qv (fun (u : MS) => True ∧ xInv u.1 u.2.2.1 ∧ (∀ k, k ∉ ([185] : List Nat) → u.1 k = i k) ∧ (∀ k, k ∉ ([179] : List Nat) → u.2.2.1 k = c k) ∧ (PS (u.2.2.1 179) (u.1 185)) ∧ ((u.1 185).toInt = w.toInt) ∧ ((u.2.2.1 179) = rwX (c 179) (c 150) 0)) (oC D (va_A (xwU (.ref (a 166)) a t i q c d) sz) (fun u : MS => xwU (.ref (a 166)) a t u.1 u.2.1 u.2.2.1 u.2.2.2) (fun _ => [])) (va_A (xwU (.ref (a 166)) a t i q c d) sz)) 0 0 (va_A (xwU (.ref (a 166)) a t i q c d) sz) := by
  refine Met.ofW (cc := cX7_startFrom) (maxL := 3) (ret := none) (by decide +kernel) rfl ?_
  intro p e s m args below meth cd s₁ B hml hv
  obtain ⟨rfl, ⟨hsz, hP, hK, hD0⟩, hN, hZ, hBW⟩ := hv
  have hx := B.exec
  have hb := B.bytes
  have hr := B.returns
  have hts := atoms_spec (ws := wm_X7_startFrom_eS) B.pre
  have hown : s.vm.findClass RX7 = some m.cls := findClass_of_methodNamed B.named
  have hlocks := B.notSynchronized
  subst hsz
  have hD := hD0.self (sz := s.heap.size)
  have hZ := xZ_A hZ hP hBW
  generalize hAe : va_A (xwU (.ref (a 166)) a t i q c d) s.heap.size = A at hD hZ ⊢
  have hA : ∀ q : Nat, s.heap.size ≤ q → A q := fun q h => by rw [← hAe]; exact Or.inr h
  have hS : va_S A s.heap s.heap [] := va_S.rf
  have hfi : ∀ k, k ∉ ([] : List Nat) → i k = i k := fun _ _ => rfl
  have hfc : ∀ k, k ∉ ([] : List Nat) → c k = c k := fun _ _ => rfl
  have hl := lv_entry ([.ref (a 166), .ref (a 149), .int w]) (n := 3) (Nat.le_of_ble_eq_true rfl)
  rw [lg_entry_eq]
  generalize (lg_sl ([.ref (a 166), .ref (a 149), .int w]) ++ List.replicate (3 - (lg_sl ([.ref (a 166), .ref (a 149), .int w])).length) Slot.unset).toArray = ls at hl ⊢
  have hl : lv_has ls 3 [(0, .ref (a 166)), (1, .ref (a 149)), (2, .int w)] := hl
  refine lv_aload_n hx hb dX7_startFrom_0 rfl (lv_at hl 1 rfl) ?_
  refine xgU_TS_cells hx hb hts (fun _ h => List.mem_cons_of_mem _ (List.mem_append_left _ (List.mem_append_left _ (List.mem_append_right _ h)))) hown hK hP (hts (.fieldLink RX7 65 "TalePlay$Scene" "cells" "[I") (List.mem_cons_of_mem _ (List.mem_append_left _ (List.mem_append_left _ (List.mem_append_left _ (List.mem_of_getElem? (i := 0) rfl)))))) dX7_startFrom_1 ?_
  refine lv_iconst (v := 0) hx hb dX7_startFrom_4 (by decide +kernel) ?_
  refine lv_aload_n hx hb dX7_startFrom_5 rfl (lv_at hl 0 rfl) ?_
  refine xgU_S_scene hx hb hts (fun _ h => List.mem_cons_of_mem _ (List.mem_append_left _ (List.mem_append_right _ h))) hown hK hP (hts (.fieldLink RX7 39 "TalePlay$Seeker" "scene" "LTalePlay$Scene;") (List.mem_cons_of_mem _ (List.mem_append_left _ (List.mem_append_left _ (List.mem_append_left _ (List.mem_of_getElem? (i := 1) rfl)))))) dX7_startFrom_6 ?_
  refine xgU_SS_cells hx hb hts (fun _ h => List.mem_cons_of_mem _ (List.mem_append_left _ (List.mem_append_left _ (List.mem_append_right _ h)))) hown hK hP (hts (.fieldLink RX7 65 "TalePlay$Scene" "cells" "[I") (List.mem_cons_of_mem _ (List.mem_append_left _ (List.mem_append_left _ (List.mem_append_left _ (List.mem_of_getElem? (i := 0) rfl)))))) dX7_startFrom_9 ?_
  refine lv_iconst (v := 0) hx hb dX7_startFrom_12 (by decide +kernel) ?_
  refine lv_bipush (v := 30) hx hb dX7_startFrom_13 (by decide +kernel) ?_
  refine va_copyi (sp := 0) (dp := 0) (n := 30) hx hb (hml.trans hl.1.symm) hown (hts (.methodLink RX7 68 arraycopyName) (List.mem_cons_of_mem _ (List.mem_append_left _ (List.mem_append_left _ (List.mem_append_left _ (List.mem_of_getElem? (i := 2) rfl)))))) (hts (.native arraycopyName) (List.mem_cons_of_mem _ (List.mem_append_left _ (List.mem_append_left _ (List.mem_append_left _ (List.mem_of_getElem? (i := 3) rfl)))))) (hts (.static arraycopyName) (List.mem_cons_of_mem _ (List.mem_append_left _ (List.mem_append_left _ (List.mem_append_left _ (List.mem_of_getElem? (i := 4) rfl)))))) (hts (.initialized "java/lang/System") (List.mem_cons_of_mem _ (List.mem_append_left _ (List.mem_append_left _ (List.mem_append_left _ (List.mem_of_getElem? (i := 5) rfl)))))) hK hP hD hS 38 59 30 45 rfl rfl rfl rfl rfl (by decide +kernel) (by decide +kernel) (by decide +kernel) (by show (0 : Int32).toInt.toNat + (30 : Int32).toInt.toNat ≤ 30; have h80 : (0 : Int32).toInt = 0 := (by decide +kernel); have h81 : (30 : Int32).toInt = 30 := (by decide +kernel); omega) (by show (0 : Int32).toInt.toNat + (30 : Int32).toInt.toNat ≤ 30; have h80 : (0 : Int32).toInt = 0 := (by decide +kernel); have h81 : (30 : Int32).toInt = 30 := (by decide +kernel); omega) (fun _ _ => rfl) (Nat.le_of_ble_eq_true rfl) (Nat.le_of_ble_eq_true rfl) dX7_startFrom_15 (fun H locs hP hD hS => ?_)
  have hP : va_P D vwCl (xwU (.ref (a 166)) a t i q (updF c 179 (va_cpy (c 150) (c 179) (0 : Int32).toNatClampNeg (0 : Int32).toNatClampNeg (30 : Int32).toNatClampNeg)) d) H := hP
  have hD : va_D A (xwU (.ref (a 166)) a t i q (updF c 179 (va_cpy (c 150) (c 179) (0 : Int32).toNatClampNeg (0 : Int32).toNatClampNeg (30 : Int32).toNatClampNeg)) d) := hD
  have hI := xInv_f hI (k := 179) (f := (va_cpy (c 150) (c 179) (0 : Int32).toNatClampNeg (0 : Int32).toNatClampNeg (30 : Int32).toNatClampNeg)) (fun j => by unfold va_cpy; split; (· exact hI.2 150 _); (· exact hI.2 179 _))
  have hfc : ∀ k, k ∉ ([179] : List Nat) → (updF c 179 (va_cpy (c 150) (c 179) (0 : Int32).toNatClampNeg (0 : Int32).toNatClampNeg (30 : Int32).toNatClampNeg)) k = c k := fr_f hfc (by decide +kernel) (by decide +kernel)
  refine lv_aload_n hx hb dX7_startFrom_18 rfl (lv_at hl 0 rfl) ?_
  refine xgU_S_acts hx hb hts (fun _ h => List.mem_cons_of_mem _ (List.mem_append_left _ (List.mem_append_right _ h))) hown hK hP (hts (.fieldLink RX7 57 "TalePlay$Seeker" "acts" "LTalePlay$Acts;") (List.mem_cons_of_mem _ (List.mem_append_left _ (List.mem_append_left _ (List.mem_append_left _ (List.mem_of_getElem? (i := 6) rfl)))))) dX7_startFrom_19 ?_
  refine lv_iload_n hx hb dX7_startFrom_22 rfl (lv_at hl 2 rfl) ?_
  refine xpU_SA_player hx hb hts (fun _ h => List.mem_cons_of_mem _ (List.mem_append_right _ h)) hown hK hP hD hS (hts (.fieldLink RX7 74 "TalePlay$Acts" "player" "I") (List.mem_cons_of_mem _ (List.mem_append_left _ (List.mem_append_left _ (List.mem_append_left _ (List.mem_of_getElem? (i := 7) rfl)))))) rfl rfl dX7_startFrom_23 (fun H locs hP hD hS => ?_)
  have hI := xInv_i hI (k := 185) (v := w) (show (w : Int32).toInt = -9 ∨ (0 ≤ (w : Int32).toInt ∧ (w : Int32).toInt ≤ 29) from by omega)
  have hfi : ∀ k, k ∉ ([185] : List Nat) → (upd i 185 w) k = i k := fr_iz hfi (by decide +kernel) (by decide +kernel)
  have hPS2 : PS ((updF c 179 (va_cpy (c 150) (c 179) (0 : Int32).toNatClampNeg (0 : Int32).toNatClampNeg (30 : Int32).toNatClampNeg)) 179) (w : Int32) := PS_c (z := 0) (z2 := 0) (tt := 30) hPS hw (by decide +kernel) (by decide +kernel) (by decide +kernel)
  exact rw_vret ((upd i 185 w), q, (updF c 179 (va_cpy (c 150) (c 179) (0 : Int32).toNatClampNeg (0 : Int32).toNatClampNeg (30 : Int32).toNatClampNeg)), d) hx hb hr hlocks hS (hK.sub (tys' := []) [] rfl) hP hD dX7_startFrom_26 ⟨trivial, hI, fr_w hfi (by decide +kernel), fr_w hfc (by decide +kernel), (show PS ((updF c 179 (va_cpy (c 150) (c 179) (0 : Int32).toNatClampNeg (0 : Int32).toNatClampNeg (30 : Int32).toNatClampNeg)) 179) (w : Int32) from hPS2), (show (w : Int32).toInt = w.toInt from by omega), (show ((updF c 179 (va_cpy (c 150) (c 179) (0 : Int32).toNatClampNeg (0 : Int32).toNatClampNeg (30 : Int32).toNatClampNeg)) 179) = rwX (c 179) (c 150) 0 from rwX_c (k := 0) (sp := 0) (dp := 0) (nn := 30) (fun _ _ => rfl) (by decide +kernel) (by decide +kernel) (by decide +kernel))⟩

def SkX (Q T : Prop) (r : Int) (S A : Prop) : Prop := (¬ Q ∧ r = -1 ∧ S) ∨ (Q ∧ ¬ T ∧ r = -5 ∧ S) ∨ (Q ∧ T ∧ A)
