def wm_X7_weightOf : List Cond := .code yX7_weightOf cX7_weightOf 1 (some .int) :: (([.constant RX7 163 (-1640531535)] : List Cond))
def wm_X7_isEnded : List Cond := .code yX7_isEnded cX7_isEnded 1 (some .boolean) :: (([.fieldLink RX7 83 "TalePlay$Seeker" "found" "I", .fieldLink RX7 86 "TalePlay$Seeker" "states" "I"] : List Cond) ++ wsX70)
set_option maxHeartbeats 4000000 in
set_option maxRecDepth 100000 in
theorem x_X7_isEnded (l : Launch) (D : va_G) (sz : Nat) (sk : Value) (a : Nat → Nat) (t : Nat → ClassId) (i : Nat → Int32) (q : Int64) (c : Nat → Nat → Int32) (d : Nat → Nat → Int64) (hI : xInv i c) : Met l yX7_isEnded wm_X7_isEnded ({ frames := 0, cells := 0, slots := 0, locals := 0 }) (va_Pc [.ref (a 166)] (yA (a 186) D sz (xwS sk a t i q c d) (xtS t))) (va_Qi (fun (r : Int32) (_ : Unit) => r = (if (¬ (i 175).toInt = -9 ∨ 300 ≤ (i 174).toInt) then 1 else 0)) oA (ro sz)) 0 0 (ro sz) := by
  refine Met.ofW (cc := cX7_isEnded) (maxL := 1) (ret := (some .boolean)) (by decide +kernel) rfl ?_
  intro p e s m args below meth cd s₁ B hml hv
  obtain ⟨rfl, ⟨hsz, hP, hK⟩, hN, hZ⟩ := hv
  have hx := B.exec
  have hb := B.bytes
  have hr := B.returns
  have hts := atoms_spec (ws := wm_X7_isEnded) B.pre
  have hown : s.vm.findClass RX7 = some m.cls := findClass_of_methodNamed B.named
  have hlocks := B.notSynchronized
  subst hsz
  have hA : ∀ q : Nat, s.heap.size ≤ q → ro s.heap.size q := fun _ h => h
  have hS : va_S (ro s.heap.size) s.heap s.heap [] := va_S.rf
  have hl := lv_entry ([.ref (a 166)]) (n := 1) (Nat.le_of_ble_eq_true rfl)
  rw [lg_entry_eq]
  generalize (lg_sl ([.ref (a 166)]) ++ List.replicate (1 - (lg_sl ([.ref (a 166)])).length) Slot.unset).toArray = ls at hl ⊢
  have hl : lv_has ls 1 [(0, .ref (a 166))] := hl
  refine lv_aload_n hx hb dX7_isEnded_0 rfl (lv_at hl 0 rfl) ?_
  refine xgS_S_found (v := (i 175)) rfl hx hb hts (fun _ h => List.mem_cons_of_mem _ (List.mem_append_right _ h)) hown hK hP (hts (.fieldLink RX7 83 "TalePlay$Seeker" "found" "I") (List.mem_cons_of_mem _ (List.mem_append_left _ (List.mem_of_getElem? (i := 0) rfl)))) dX7_isEnded_1 ?_
  have rb175_i : (i 175).toInt = -9 ∨ (0 ≤ (i 175).toInt ∧ (i 175).toInt ≤ 299) := hI.1 175
  refine lv_bipush (v := (-9)) hx hb dX7_isEnded_4 (by decide +kernel) ?_
  refine lv_icmp_ne (tgt := 19) hx hb dX7_isEnded_6 (by decide +kernel) (fun c1 => ?_) (fun c1 => ?_)
  · have f1 := mt (ti_eq (a := (i 175).toInt) (b := (-9)) rfl (by decide +kernel)).mpr c1
    refine lv_iconst (v := 1) hx hb dX7_isEnded_19 (by decide +kernel) ?_
    refine lv_goto (tgt := 24) hx hb dX7_isEnded_20 (by decide +kernel) ?_
    exact ro_zret hx hb hr hlocks hS rfl dX7_isEnded_24 (by show _ = _; rw [if_pos (by omega)])
  · have f1 := (ti_eq (a := (i 175).toInt) (b := (-9)) rfl (by decide +kernel)).mp c1
    refine lv_aload_n hx hb dX7_isEnded_9 rfl (lv_at hl 0 rfl) ?_
    refine xgS_S_states (v := (i 174)) rfl hx hb hts (fun _ h => List.mem_cons_of_mem _ (List.mem_append_right _ h)) hown hK hP (hts (.fieldLink RX7 86 "TalePlay$Seeker" "states" "I") (List.mem_cons_of_mem _ (List.mem_append_left _ (List.mem_of_getElem? (i := 1) rfl)))) dX7_isEnded_10 ?_
    have rb174_i : 0 ≤ (i 174).toInt ∧ (i 174).toInt ≤ 300 := hI.1 174
    refine lv_sipush (v := 300) hx hb dX7_isEnded_13 (by decide +kernel) ?_
    refine lv_icmp_lt (tgt := 23) hx hb dX7_isEnded_16 (by decide +kernel) (fun c2 => ?_) (fun c2 => ?_)
    · have f2 := (ti_lt (a := (i 174).toInt) (b := 300) rfl (by decide +kernel)).mp c2
      refine lv_iconst (v := 0) hx hb dX7_isEnded_23 (by decide +kernel) ?_
      exact ro_zret hx hb hr hlocks hS rfl dX7_isEnded_24 (by show _ = _; rw [if_neg (by omega)])
    · have f2 := mt (ti_lt (a := (i 174).toInt) (b := 300) rfl (by decide +kernel)).mpr c2
      refine lv_iconst (v := 1) hx hb dX7_isEnded_19 (by decide +kernel) ?_
      refine lv_goto (tgt := 24) hx hb dX7_isEnded_20 (by decide +kernel) ?_
      exact ro_zret hx hb hr hlocks hS rfl dX7_isEnded_24 (by show _ = _; rw [if_pos (by omega)])
