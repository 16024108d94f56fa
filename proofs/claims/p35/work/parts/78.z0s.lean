def wm_X7_isScene_eS : List Cond := .code yX7_isScene cX7_isScene 3 (some .boolean) :: (([.fieldLink RX7 30 "TalePlay$Seeker" "world" "LTalePlay$World;", .fieldLink RX7 125 "TalePlay$World" "objects" "I", .fieldLink RX7 9 "TalePlay$Seeker" "kept" "[I", .fieldLink RX7 39 "TalePlay$Seeker" "scene" "LTalePlay$Scene;", .fieldLink RX7 65 "TalePlay$Scene" "cells" "[I"] : List Cond) ++ wsX70 ++ wsX100 ++ wsX60)
set_option maxHeartbeats 4000000 in
set_option maxRecDepth 100000 in
theorem x_X7_isScene_eS (l : Launch) (D : va_G) (sz : Nat) (sk : Value) (a : Nat → Nat) (t : Nat → ClassId) (i : Nat → Int32) (q : Int64) (c : Nat → Nat → Int32) (d : Nat → Nat → Int64) (s1 : Int32) (hI : xInv i c) (hs1 : 0 ≤ s1.toInt ∧ s1.toInt ≤ 299) : Met l yX7_isScene wm_X7_isScene_eS ({ frames := 0, cells := 0, slots := 0, locals := 0 }) (va_Pc [.ref (a 166), .int s1] (yA (a 186) D sz (xwS sk a t i q c d) (xtS t))) (va_Qi (fun (r : Int32) (_ : Unit) => ((0 ≤ r.toInt ∧ r.toInt ≤ 1) ∧ (Sm r (ScK (c 179) (c 167) (i 111).toInt s1.toInt.toNat)))) oA (ro sz)) 0 0 (ro sz) := by
  refine Met.ofW (cc := cX7_isScene) (maxL := 3) (ret := (some .boolean)) (by decide +kernel) rfl ?_
  intro p e s m args below meth cd s₁ B hml hv
  obtain ⟨rfl, ⟨hsz, hP, hK⟩, hN, hZ⟩ := hv
  have hx := B.exec
  have hb := B.bytes
  have hr := B.returns
  have hts := atoms_spec (ws := wm_X7_isScene_eS) B.pre
  have hown : s.vm.findClass RX7 = some m.cls := findClass_of_methodNamed B.named
  have hlocks := B.notSynchronized
  subst hsz
  have hA : ∀ q : Nat, s.heap.size ≤ q → ro s.heap.size q := fun _ h => h
  have hS : va_S (ro s.heap.size) s.heap s.heap [] := va_S.rf
  have hl := lv_entry ([.ref (a 166), .int s1]) (n := 3) (Nat.le_of_ble_eq_true rfl)
  rw [lg_entry_eq]
  generalize (lg_sl ([.ref (a 166), .int s1]) ++ List.replicate (3 - (lg_sl ([.ref (a 166), .int s1])).length) Slot.unset).toArray = ls at hl ⊢
  have hl : lv_has ls 3 [(0, .ref (a 166)), (1, .int s1)] := hl
  have rb111_i : 0 ≤ (i 111).toInt ∧ (i 111).toInt ≤ 30 := hI.1 111
  refine lv_iconst (v := 0) hx hb dX7_isScene_0 (by decide +kernel) ?_
  refine lv_istore_n (lv' := [(2, .int 0), (0, .ref (a 166)), (1, .int s1)]) hx hb dX7_isScene_1 rfl hl (by decide +kernel) rfl (fun ls hl => ?_)
  have lp1 : ∀ (fu : Nat) (y1_2 : Int32), (0 ≤ y1_2.toInt ∧ y1_2.toInt ≤ 30 ∧ y1_2.toInt ≤ (i 111).toInt) → (ScK (c 179) (c 167) y1_2.toInt s1.toInt.toNat) → (30 - y1_2.toInt).toNat < fu → ∀ (H : Heap) (locs : List Loc) (ls : Array Slot), va_P D vwCl (xwS sk a t i q c d) H → va_S (ro s.heap.size) s.heap H locs → lv_has ls 3 [(2, .int y1_2), (0, .ref (a 166)), (1, .int s1)] → W p l e (headSpec wm_X7_isScene_eS ({ frames := 0, cells := 0, slots := 0, locals := 0 })).room s m ([.ref (a 166), .int s1] : List Value).toArray below meth cd H locs 0 0 (MQ below (va_Qi (fun (r : Int32) (_ : Unit) => ((0 ≤ r.toInt ∧ r.toInt ≤ 1) ∧ (Sm r (ScK (c 179) (c 167) (i 111).toInt s1.toInt.toNat)))) oA (ro s.heap.size)) ([.ref (a 166), .int s1] : List Value).toArray s 0 0 (ro s.heap.size)) (F0 m 2 ls []) := by
    intro fu
    induction fu with
    | zero => intro y1_2 hy1_2 hz1_0 hm; exact absurd hm (Nat.not_lt_zero _)
    | succ fu ih =>
      intro y1_2 hy1_2 hz1_0 hm H locs ls hP hS hl
      have ih1 := ih
      refine lv_iload_n hx hb dX7_isScene_2 rfl (lv_at hl 0 rfl) ?_
      refine lv_aload_n hx hb dX7_isScene_3 rfl (lv_at hl 1 rfl) ?_
      refine xgS_S_world hx hb hts (fun _ h => List.mem_cons_of_mem _ (List.mem_append_left _ (List.mem_append_left _ (List.mem_append_right _ h)))) hown hK hP (hts (.fieldLink RX7 30 "TalePlay$Seeker" "world" "LTalePlay$World;") (List.mem_cons_of_mem _ (List.mem_append_left _ (List.mem_append_left _ (List.mem_append_left _ (List.mem_of_getElem? (i := 0) rfl)))))) dX7_isScene_4 ?_
      refine xgS_W_objects (v := (i 111)) rfl hx hb hts (fun _ h => List.mem_cons_of_mem _ (List.mem_append_left _ (List.mem_append_right _ h))) hown hK hP (hts (.fieldLink RX7 125 "TalePlay$World" "objects" "I") (List.mem_cons_of_mem _ (List.mem_append_left _ (List.mem_append_left _ (List.mem_append_left _ (List.mem_of_getElem? (i := 1) rfl)))))) dX7_isScene_7 ?_
      refine lv_icmp_ge (tgt := 44) hx hb dX7_isScene_10 (by decide +kernel) (fun c2 => ?_) (fun c2 => ?_)
      · have f2 := (ti_le (a := (i 111).toInt) (b := y1_2.toInt) rfl rfl).mp c2
        refine lv_iconst (v := 1) hx hb dX7_isScene_44 (by decide +kernel) ?_
        exact ro_zret hx hb hr hlocks hS rfl dX7_isScene_45 ⟨(show 0 ≤ (1 : Int32).toInt ∧ (1 : Int32).toInt ≤ 1 from by decide +kernel), (show Sm (1 : Int32) (ScK (c 179) (c 167) (i 111).toInt s1.toInt.toNat) from sm_1 (by rw [show (i 111).toInt = y1_2.toInt by omega]; exact hz1_0))⟩
      · have f2 := mt (ti_le (a := (i 111).toInt) (b := y1_2.toInt) rfl rfl).mpr c2
        refine lv_aload_n hx hb dX7_isScene_13 rfl (lv_at hl 1 rfl) ?_
        refine xgS_S_kept hx hb hts (fun _ h => List.mem_cons_of_mem _ (List.mem_append_left _ (List.mem_append_left _ (List.mem_append_right _ h)))) hown hK hP (hts (.fieldLink RX7 9 "TalePlay$Seeker" "kept" "[I") (List.mem_cons_of_mem _ (List.mem_append_left _ (List.mem_append_left _ (List.mem_append_left _ (List.mem_of_getElem? (i := 2) rfl)))))) dX7_isScene_14 ?_
        refine lv_iload_n hx hb dX7_isScene_17 rfl (lv_at hl 2 rfl) ?_
        refine lv_bipush (v := 30) hx hb dX7_isScene_18 (by decide +kernel) ?_
        refine lv_imul hx hb dX7_isScene_20 ?_
        refine lv_topi (fun x3 ex3 => ?_)
        have tx3 := ti_mul (a := s1.toInt) (b := 30) ex3 rfl (by decide +kernel) (by omega) (by omega)
        refine lv_iload_n hx hb dX7_isScene_21 rfl (lv_at hl 0 rfl) ?_
        refine lv_iadd hx hb dX7_isScene_22 ?_
        refine lv_topi (fun x4 ex4 => ?_)
        have tx4 := ti_add (a := (s1.toInt * 30)) (b := y1_2.toInt) ex4 tx3 rfl (by omega) (by omega)
        refine xlS_167 hx hb hK hP (vp_in_iff.mpr (by have h9 : x4.toInt = ((s1.toInt * 30) + y1_2.toInt) := tx4; omega)) dX7_isScene_23 (fun x5 ex5 => ?_)
        have rx5 : 0 ≤ x5.toInt ∧ x5.toInt ≤ 16383 ∧ (x5.toInt % 256 = 255 ∨ (x5.toInt % 8 ≤ 4 ∧ x5.toInt / 8 % 32 ≤ 29)) := by rw [ex5]; exact hI.2 167 _
        refine lv_aload_n hx hb dX7_isScene_24 rfl (lv_at hl 1 rfl) ?_
        refine xgS_S_scene hx hb hts (fun _ h => List.mem_cons_of_mem _ (List.mem_append_left _ (List.mem_append_left _ (List.mem_append_right _ h)))) hown hK hP (hts (.fieldLink RX7 39 "TalePlay$Seeker" "scene" "LTalePlay$Scene;") (List.mem_cons_of_mem _ (List.mem_append_left _ (List.mem_append_left _ (List.mem_append_left _ (List.mem_of_getElem? (i := 3) rfl)))))) dX7_isScene_25 ?_
        refine xgS_SS_cells hx hb hts (fun _ h => List.mem_cons_of_mem _ (List.mem_append_right _ h)) hown hK hP (hts (.fieldLink RX7 65 "TalePlay$Scene" "cells" "[I") (List.mem_cons_of_mem _ (List.mem_append_left _ (List.mem_append_left _ (List.mem_append_left _ (List.mem_of_getElem? (i := 4) rfl)))))) dX7_isScene_28 ?_
        refine lv_iload_n hx hb dX7_isScene_31 rfl (lv_at hl 0 rfl) ?_
        refine xlS_179 hx hb hK hP (vp_in_iff.mpr (by have h9 : y1_2.toInt = y1_2.toInt := rfl; omega)) dX7_isScene_32 (fun x6 ex6 => ?_)
        have rx6 : 0 ≤ x6.toInt ∧ x6.toInt ≤ 16383 ∧ (x6.toInt % 256 = 255 ∨ (x6.toInt % 8 ≤ 4 ∧ x6.toInt / 8 % 32 ≤ 29)) := by rw [ex6]; exact hI.2 179 _
        refine lv_icmp_eq (tgt := 38) hx hb dX7_isScene_33 (by decide +kernel) (fun c7 => ?_) (fun c7 => ?_)
        · have f7 := (ti_eq (a := x5.toInt) (b := x6.toInt) rfl rfl).mp c7
          obtain ⟨x8, ex8⟩ : ∃ y : Int32, y = y1_2 + 1 := ⟨_, rfl⟩
          have tx8 := ti_add (a := y1_2.toInt) (b := 1) ex8 rfl (by decide +kernel) (by omega) (by omega)
          refine lv_iinc (v := x8) (lv' := [(2, .int x8), (0, .ref (a 166)), (1, .int s1)]) hx hb dX7_isScene_38 hl (k := 0) rfl (by rw [ex8]; rfl) (by decide +kernel) rfl (fun ls hl => ?_)
          refine lv_goto (tgt := 2) hx hb dX7_isScene_41 (by decide +kernel) ?_
          exact ih1 x8 (show 0 ≤ x8.toInt ∧ x8.toInt ≤ 30 ∧ x8.toInt ≤ (i 111).toInt from by have h50 : x8.toInt = (y1_2.toInt + 1) := tx8; omega) (show ScK (c 179) (c 167) x8.toInt s1.toInt.toNat from ScK_s hz1_0 (by omega) tx8 (by rw [show (c 167) (30 * s1.toInt.toNat + y1_2.toInt.toNat) = x5 from by rw [ex5, cl_t (show (x4 : Int32).toInt = ((30 * s1.toInt.toNat + y1_2.toInt.toNat : Nat) : Int) from by have h9 : x4.toInt = ((s1.toInt * 30) + y1_2.toInt) := tx4; omega), Int.toNat_natCast], show (c 179) y1_2.toInt.toNat = x6 from ex6.symm]; exact Int32.toInt_inj.mp (by omega))) (by have h50 : x8.toInt = (y1_2.toInt + 1) := tx8; omega) _ _ _ hP hS (lv_sub hl [0, 1, 2] rfl)
        · have f7 := mt (ti_eq (a := x5.toInt) (b := x6.toInt) rfl rfl).mpr c7
          refine lv_iconst (v := 0) hx hb dX7_isScene_36 (by decide +kernel) ?_
          exact ro_zret hx hb hr hlocks hS rfl dX7_isScene_37 ⟨(show 0 ≤ (0 : Int32).toInt ∧ (0 : Int32).toInt ≤ 1 from by decide +kernel), (show Sm (0 : Int32) (ScK (c 179) (c 167) (i 111).toInt s1.toInt.toNat) from sm_0 (fun h9 => by have h8 := h9 y1_2.toInt.toNat (by omega); rw [show (c 167) (30 * s1.toInt.toNat + y1_2.toInt.toNat) = x5 from by rw [ex5, cl_t (show (x4 : Int32).toInt = ((30 * s1.toInt.toNat + y1_2.toInt.toNat : Nat) : Int) from by have h9 : x4.toInt = ((s1.toInt * 30) + y1_2.toInt) := tx4; omega), Int.toNat_natCast], show (c 179) y1_2.toInt.toNat = x6 from ex6.symm] at h8; have h7 := congrArg Int32.toInt h8; omega))⟩
  exact lp1 _ (0 : Int32) (show 0 ≤ (0 : Int32).toInt ∧ (0 : Int32).toInt ≤ 30 ∧ (0 : Int32).toInt ≤ (i 111).toInt from by have h50 : (0 : Int32).toInt = 0 := (by decide +kernel); omega) (show ScK (c 179) (c 167) (0 : Int32).toInt s1.toInt.toNat from fun o ho => by have h9 : (0 : Int32).toInt = 0 := (by decide +kernel); exfalso; omega) (Nat.lt_succ_self _) _ _ _ hP hS (lv_sub hl [0, 1, 2] rfl)

def wm_X7_slotFor_eS : List Cond := .code yX7_slotFor cX7_slotFor 4 (some .int) :: (([.constant RX7 163 (-1640531535), .fieldLink RX7 18 "TalePlay$Seeker" "slots" "[I", .fieldLink RX7 15 "TalePlay$Seeker" "marks" "[I", .methodLink RX7 164 yX7_isScene, .instanceMethod yX7_isScene, .selects RX7 yX7_isScene yX7_isScene, .initialized RX7, .code yX7_isScene cX7_isScene 3 (some .boolean), .fieldLink RX7 30 "TalePlay$Seeker" "world" "LTalePlay$World;", .fieldLink RX7 125 "TalePlay$World" "objects" "I", .fieldLink RX7 9 "TalePlay$Seeker" "kept" "[I", .fieldLink RX7 39 "TalePlay$Seeker" "scene" "LTalePlay$Scene;", .fieldLink RX7 65 "TalePlay$Scene" "cells" "[I"] : List Cond) ++ wsX70 ++ wsX100 ++ wsX60)
set_option maxRecDepth 20000 in
theorem gm_X7_slotFor_eS_X7_isScene_eS_164 : GoodIn wm_X7_slotFor_eS (wsV RX7 164 RX7 yX7_isScene wm_X7_isScene_eS) := goodIn_w (List.forall_mem_append.mpr ⟨List.forall_mem_cons.mpr ⟨List.mem_cons_of_mem _ (List.mem_append_left _ (List.mem_append_left _ (List.mem_append_left _ (List.mem_of_getElem? (i := 3) rfl)))), List.forall_mem_cons.mpr ⟨List.mem_cons_of_mem _ (List.mem_append_left _ (List.mem_append_left _ (List.mem_append_left _ (List.mem_of_getElem? (i := 4) rfl)))), List.forall_mem_cons.mpr ⟨List.mem_cons_of_mem _ (List.mem_append_left _ (List.mem_append_left _ (List.mem_append_left _ (List.mem_of_getElem? (i := 5) rfl)))), List.forall_mem_cons.mpr ⟨List.mem_cons_of_mem _ (List.mem_append_left _ (List.mem_append_left _ (List.mem_append_left _ (List.mem_of_getElem? (i := 6) rfl)))), (fun _ h => absurd h List.not_mem_nil)⟩⟩⟩⟩, List.forall_mem_cons.mpr ⟨List.mem_cons_of_mem _ (List.mem_append_left _ (List.mem_append_left _ (List.mem_append_left _ (List.mem_of_getElem? (i := 7) rfl)))), List.forall_mem_append.mpr ⟨List.forall_mem_append.mpr ⟨List.forall_mem_append.mpr ⟨List.forall_mem_cons.mpr ⟨List.mem_cons_of_mem _ (List.mem_append_left _ (List.mem_append_left _ (List.mem_append_left _ (List.mem_of_getElem? (i := 8) rfl)))), List.forall_mem_cons.mpr ⟨List.mem_cons_of_mem _ (List.mem_append_left _ (List.mem_append_left _ (List.mem_append_left _ (List.mem_of_getElem? (i := 9) rfl)))), List.forall_mem_cons.mpr ⟨List.mem_cons_of_mem _ (List.mem_append_left _ (List.mem_append_left _ (List.mem_append_left _ (List.mem_of_getElem? (i := 10) rfl)))), List.forall_mem_cons.mpr ⟨List.mem_cons_of_mem _ (List.mem_append_left _ (List.mem_append_left _ (List.mem_append_left _ (List.mem_of_getElem? (i := 11) rfl)))), List.forall_mem_cons.mpr ⟨List.mem_cons_of_mem _ (List.mem_append_left _ (List.mem_append_left _ (List.mem_append_left _ (List.mem_of_getElem? (i := 12) rfl)))), (fun _ h => absurd h List.not_mem_nil)⟩⟩⟩⟩⟩, (fun _ h => List.mem_cons_of_mem _ (List.mem_append_left _ (List.mem_append_left _ (List.mem_append_right _ h))))⟩, (fun _ h => List.mem_cons_of_mem _ (List.mem_append_left _ (List.mem_append_right _ h)))⟩, (fun _ h => List.mem_cons_of_mem _ (List.mem_append_right _ h))⟩⟩⟩) (by decide +kernel)
set_option maxHeartbeats 4000000 in
set_option maxRecDepth 100000 in
theorem x_X7_slotFor_eS (l : Launch) (D : va_G) (sz : Nat) (sk : Value) (a : Nat → Nat) (t : Nat → ClassId) (i : Nat → Int32) (q : Int64) (c : Nat → Nat → Int32) (d : Nat → Nat → Int64) (b1 : Int32) (hI : xInv i c) (hmk : b1 = mkS (c 179)) (hs_H : HsI (c 169) (c 168) (c 167) (i 174).toInt) (hs_T9 : TaI (c 179) (c 167) (i 174).toInt (i 111).toInt) (hst3 : (i 174).toInt ≤ 300) : Met l yX7_slotFor wm_X7_slotFor_eS ({ frames := 1, cells := 0, slots := 0, locals := 22 }) (va_Pc [.ref (a 166), .int b1] (yA (a 186) D sz (xwS sk a t i q c d) (xtS t))) (va_Qi (fun (r : Int32) (_ : Unit) => ((0 ≤ r.toInt ∧ r.toInt ≤ 1023) ∧ (SlR (c 169) (c 167) (c 179) b1 (i 111).toInt (i 174).toInt r))) oA (ro sz)) 0 0 (ro sz) := by
  refine Met.ofW (cc := cX7_slotFor) (maxL := 4) (ret := (some .int)) (by decide +kernel) rfl ?_
  intro p e s m args below meth cd s₁ B hml hv
  obtain ⟨rfl, ⟨hsz, hP, hK⟩, hN, hZ⟩ := hv
  have hx := B.exec
  have hb := B.bytes
  have hr := B.returns
  have hts := atoms_spec (ws := wm_X7_slotFor_eS) B.pre
  have hown : s.vm.findClass RX7 = some m.cls := findClass_of_methodNamed B.named
  have hlocks := B.notSynchronized
  subst hsz
  have hA : ∀ q : Nat, s.heap.size ≤ q → ro s.heap.size q := fun _ h => h
  have hS : va_S (ro s.heap.size) s.heap s.heap [] := va_S.rf
  have hl := lv_entry ([.ref (a 166), .int b1]) (n := 4) (Nat.le_of_ble_eq_true rfl)
  rw [lg_entry_eq]
  generalize (lg_sl ([.ref (a 166), .int b1]) ++ List.replicate (4 - (lg_sl ([.ref (a 166), .int b1])).length) Slot.unset).toArray = ls at hl ⊢
  have hl : lv_has ls 4 [(0, .ref (a 166)), (1, .int b1)] := hl
  have rb111_i : 0 ≤ (i 111).toInt ∧ (i 111).toInt ≤ 30 := hI.1 111
  have rb174_i : 0 ≤ (i 174).toInt ∧ (i 174).toInt ≤ 300 := hI.1 174
  refine lv_iload_n hx hb dX7_slotFor_0 rfl (lv_at hl 1 rfl) ?_
  refine lv_ldc (v := (-1640531535)) hx hb hown (hts (.constant RX7 163 (-1640531535)) (List.mem_cons_of_mem _ (List.mem_append_left _ (List.mem_append_left _ (List.mem_append_left _ (List.mem_of_getElem? (i := 0) rfl)))))) dX7_slotFor_1 ?_
  refine lv_imul hx hb dX7_slotFor_3 ?_
  refine lv_topi (fun x1 ex1 => ?_)
  refine lv_bipush (v := 22) hx hb dX7_slotFor_4 (by decide +kernel) ?_
  refine lv_iushr (v := (x1.toUInt32 >>> (((22 : Int32)).toUInt32 &&& Int32.toUInt32 31)).toInt32) hx hb dX7_slotFor_6 rfl ?_
  refine lv_topi (fun x2 ex2 => ?_)
  have b2 := ushr22 ex2.symm
  refine lv_istore_n (lv' := [(2, .int x2), (0, .ref (a 166)), (1, .int b1)]) hx hb dX7_slotFor_7 rfl hl (by decide +kernel) rfl (fun ls hl => ?_)
  refine lv_iconst (v := 0) hx hb dX7_slotFor_8 (by decide +kernel) ?_
  refine lv_istore_n (lv' := [(3, .int 0), (2, .int x2), (0, .ref (a 166)), (1, .int b1)]) hx hb dX7_slotFor_9 rfl hl (by decide +kernel) rfl (fun ls hl => ?_)
  have lp3 : ∀ (fu : Nat) (y3_3 : Int32) (y3_2 : Int32), (0 ≤ y3_3.toInt ∧ y3_3.toInt ≤ 1024) → (0 ≤ y3_2.toInt ∧ y3_2.toInt ≤ 1023) → (y3_2.toInt.toNat = prS b1 y3_3.toInt.toNat) → (SlK (c 169) (c 167) (c 179) b1 (i 111).toInt y3_3.toInt.toNat) → (1024 - y3_3.toInt).toNat < fu → ∀ (H : Heap) (locs : List Loc) (ls : Array Slot), va_P D vwCl (xwS sk a t i q c d) H → va_S (ro s.heap.size) s.heap H locs → lv_has ls 4 [(3, .int y3_3), (2, .int y3_2), (0, .ref (a 166)), (1, .int b1)] → W p l e (headSpec wm_X7_slotFor_eS ({ frames := 1, cells := 0, slots := 0, locals := 22 })).room s m ([.ref (a 166), .int b1] : List Value).toArray below meth cd H locs 0 0 (MQ below (va_Qi (fun (r : Int32) (_ : Unit) => ((0 ≤ r.toInt ∧ r.toInt ≤ 1023) ∧ (SlR (c 169) (c 167) (c 179) b1 (i 111).toInt (i 174).toInt r))) oA (ro s.heap.size)) ([.ref (a 166), .int b1] : List Value).toArray s 0 0 (ro s.heap.size)) (F0 m 10 ls []) := by
    intro fu
    induction fu with
    | zero => intro y3_3 y3_2 hy3_3 hy3_2 hz3_0 hz3_1 hm; exact absurd hm (Nat.not_lt_zero _)
    | succ fu ih =>
      intro y3_3 y3_2 hy3_3 hy3_2 hz3_0 hz3_1 hm H locs ls hP hS hl
      have ih3 := ih
      refine lv_iload_n hx hb dX7_slotFor_10 rfl (lv_at hl 0 rfl) ?_
      refine lv_sipush (v := 1024) hx hb dX7_slotFor_11 (by decide +kernel) ?_
      refine lv_icmp_ge (tgt := 72) hx hb dX7_slotFor_14 (by decide +kernel) (fun c4 => ?_) (fun c4 => ?_)
      · have f4 := (ti_le (a := 1024) (b := y3_3.toInt) (by decide +kernel) rfl).mp c4
        refine lv_iload_n hx hb dX7_slotFor_72 rfl (lv_at hl 1 rfl) ?_
        exact ro_iret hx hb hr hlocks hS dX7_slotFor_73 ⟨(show 0 ≤ y3_2.toInt ∧ y3_2.toInt ≤ 1023 from by omega), (show SlR (c 169) (c 167) (c 179) b1 (i 111).toInt (i 174).toInt y3_2 from (SlK_n hs_H (by omega) (by have h9 := hz3_1; rw [show y3_3.toInt.toNat = 1024 by omega] at h9; exact h9)).elim)⟩
      · have f4 := mt (ti_le (a := 1024) (b := y3_3.toInt) (by decide +kernel) rfl).mpr c4
        refine lv_aload_n hx hb dX7_slotFor_17 rfl (lv_at hl 2 rfl) ?_
        refine xgS_S_slots hx hb hts (fun _ h => List.mem_cons_of_mem _ (List.mem_append_left _ (List.mem_append_left _ (List.mem_append_right _ h)))) hown hK hP (hts (.fieldLink RX7 18 "TalePlay$Seeker" "slots" "[I") (List.mem_cons_of_mem _ (List.mem_append_left _ (List.mem_append_left _ (List.mem_append_left _ (List.mem_of_getElem? (i := 1) rfl)))))) dX7_slotFor_18 ?_
        refine lv_iload_n hx hb dX7_slotFor_21 rfl (lv_at hl 1 rfl) ?_
        refine xlS_169 hx hb hK hP (vp_in_iff.mpr (by have h9 : y3_2.toInt = y3_2.toInt := rfl; omega)) dX7_slotFor_22 (fun x5 ex5 => ?_)
        have rx5 : x5.toInt = -9 ∨ (0 ≤ x5.toInt ∧ x5.toInt ≤ 299) := by rw [ex5]; exact hI.2 169 _
        have gx5 : (c 169 (y3_2 : Int32).toNatClampNeg).toInt = x5.toInt := (congrArg Int32.toInt ex5).symm
        have hqx5 : x5.toInt = -9 ∨ (0 ≤ x5.toInt ∧ x5.toInt < (i 174).toInt) := by have h9 := hs_H.1 y3_2.toInt.toNat (by omega); rw [show (c 169 y3_2.toInt.toNat) = x5 from ex5.symm] at h9; exact h9
        refine lv_bipush (v := (-9)) hx hb dX7_slotFor_23 (by decide +kernel) ?_
        refine lv_icmp_eq (tgt := 72) hx hb dX7_slotFor_25 (by decide +kernel) (fun c6 => ?_) (fun c6 => ?_)
        · have f6 := (ti_eq (a := x5.toInt) (b := (-9)) rfl (by decide +kernel)).mp c6
          refine lv_iload_n hx hb dX7_slotFor_72 rfl (lv_at hl 1 rfl) ?_
          exact ro_iret hx hb hr hlocks hS dX7_slotFor_73 ⟨(show 0 ≤ y3_2.toInt ∧ y3_2.toInt ≤ 1023 from by omega), (show SlR (c 169) (c 167) (c 179) b1 (i 111).toInt (i 174).toInt y3_2 from ⟨y3_3.toInt.toNat, by omega, hz3_0, fun t9 h9 => (hz3_1 t9 h9).1, Or.inl ⟨by show (c 169 y3_2.toInt.toNat).toInt = -9; have h9x5 : (c 169 y3_2.toInt.toNat).toInt = x5.toInt := congrArg Int32.toInt ex5.symm; omega, by rw [hmk] at hz3_0 hz3_1; exact SlK_f hs_H hs_T9 hz3_1 (by rw [← hz3_0]; have h9x5 : (c 169 y3_2.toInt.toNat).toInt = x5.toInt := congrArg Int32.toInt ex5.symm; omega)⟩⟩)⟩
        · have f6 := mt (ti_eq (a := x5.toInt) (b := (-9)) rfl (by decide +kernel)).mpr c6
          refine lv_aload_n hx hb dX7_slotFor_28 rfl (lv_at hl 2 rfl) ?_
          refine xgS_S_marks hx hb hts (fun _ h => List.mem_cons_of_mem _ (List.mem_append_left _ (List.mem_append_left _ (List.mem_append_right _ h)))) hown hK hP (hts (.fieldLink RX7 15 "TalePlay$Seeker" "marks" "[I") (List.mem_cons_of_mem _ (List.mem_append_left _ (List.mem_append_left _ (List.mem_append_left _ (List.mem_of_getElem? (i := 2) rfl)))))) dX7_slotFor_29 ?_
          refine lv_aload_n hx hb dX7_slotFor_32 rfl (lv_at hl 2 rfl) ?_
          refine xgS_S_slots hx hb hts (fun _ h => List.mem_cons_of_mem _ (List.mem_append_left _ (List.mem_append_left _ (List.mem_append_right _ h)))) hown hK hP (hts (.fieldLink RX7 18 "TalePlay$Seeker" "slots" "[I") (List.mem_cons_of_mem _ (List.mem_append_left _ (List.mem_append_left _ (List.mem_append_left _ (List.mem_of_getElem? (i := 1) rfl)))))) dX7_slotFor_33 ?_
          refine lv_iload_n hx hb dX7_slotFor_36 rfl (lv_at hl 1 rfl) ?_
          refine xlS_169 hx hb hK hP (vp_in_iff.mpr (by have h9 : y3_2.toInt = y3_2.toInt := rfl; omega)) dX7_slotFor_37 (fun x7 ex7 => ?_)
          have rx7 : x7.toInt = -9 ∨ (0 ≤ x7.toInt ∧ x7.toInt ≤ 299) := by rw [ex7]; exact hI.2 169 _
          have gx7 : (c 169 (y3_2 : Int32).toNatClampNeg).toInt = x7.toInt := (congrArg Int32.toInt ex7).symm
          have hqx7 : x7.toInt = -9 ∨ (0 ≤ x7.toInt ∧ x7.toInt < (i 174).toInt) := by have h9 := hs_H.1 y3_2.toInt.toNat (by omega); rw [show (c 169 y3_2.toInt.toNat) = x7 from ex7.symm] at h9; exact h9
          refine xlS_168 hx hb hK hP (vp_in_iff.mpr (by have h9 : x7.toInt = x7.toInt := rfl; omega)) dX7_slotFor_38 (fun x8 ex8 => ?_)
          refine lv_iload_n hx hb dX7_slotFor_39 rfl (lv_at hl 3 rfl) ?_
          refine lv_icmp_ne (tgt := 58) hx hb dX7_slotFor_40 (by decide +kernel) (fun c9 => ?_) (fun c9 => ?_)
          · have f9 := mt (ti_eq (a := x8.toInt) (b := b1.toInt) rfl rfl).mpr c9
            refine lv_iload_n hx hb dX7_slotFor_58 rfl (lv_at hl 1 rfl) ?_
            refine lv_iconst (v := 1) hx hb dX7_slotFor_59 (by decide +kernel) ?_
            refine lv_iadd hx hb dX7_slotFor_60 ?_
            refine lv_topi (fun x10 ex10 => ?_)
            have tx10 := ti_add (a := y3_2.toInt) (b := 1) ex10 rfl (by decide +kernel) (by omega) (by omega)
            refine lv_sipush (v := 1023) hx hb dX7_slotFor_61 (by decide +kernel) ?_
            refine lv_iand hx hb dX7_slotFor_64 ?_
            refine lv_topi (fun x11 ex11 => ?_)
            have bx11 := and1023 (by have h50 : x10.toInt = (y3_2.toInt + 1) := tx10; omega) ex11
            refine lv_istore_n (lv' := [(2, .int x11), (3, .int y3_3), (0, .ref (a 166)), (1, .int b1)]) hx hb dX7_slotFor_65 rfl hl (by decide +kernel) rfl (fun ls hl => ?_)
            obtain ⟨x12, ex12⟩ : ∃ y : Int32, y = y3_3 + 1 := ⟨_, rfl⟩
            have tx12 := ti_add (a := y3_3.toInt) (b := 1) ex12 rfl (by decide +kernel) (by omega) (by omega)
            refine lv_iinc (v := x12) (lv' := [(3, .int x12), (2, .int x11), (0, .ref (a 166)), (1, .int b1)]) hx hb dX7_slotFor_66 hl (k := 1) rfl (by rw [ex12]; rfl) (by decide +kernel) rfl (fun ls hl => ?_)
            refine lv_goto (tgt := 10) hx hb dX7_slotFor_69 (by decide +kernel) ?_
            exact ih3 x12 x11 (show 0 ≤ x12.toInt ∧ x12.toInt ≤ 1024 from by have h50 : x12.toInt = (y3_3.toInt + 1) := tx12; have h51 : x11.toInt = (x10.toInt % 1024) := bx11; omega) (show 0 ≤ x11.toInt ∧ x11.toInt ≤ 1023 from by have h50 : x12.toInt = (y3_3.toInt + 1) := tx12; have h51 : x11.toInt = (x10.toInt % 1024) := bx11; omega) (show x11.toInt.toNat = prS b1 x12.toInt.toNat from by have h8 := prS_s (m := b1) (t := y3_3.toInt.toNat) (by omega); rw [← hz3_0] at h8; have h7 : x11.toInt = (x10.toInt % 1024) := bx11; have h6 : x12.toInt = (y3_3.toInt + 1) := tx12; rw [show x12.toInt.toNat = y3_3.toInt.toNat + 1 by omega, ← h8]; omega) (show SlK (c 169) (c 167) (c 179) b1 (i 111).toInt x12.toInt.toNat from by have h6 : x12.toInt = (y3_3.toInt + 1) := tx12; rw [show x12.toInt.toNat = y3_3.toInt.toNat + 1 by omega]; exact SlK_s hz3_1 (by rw [← hz3_0]; have h9x5 : (c 169 y3_2.toInt.toNat).toInt = x5.toInt := congrArg Int32.toInt ex5.symm; omega) (fun h5 => by rw [← hz3_0] at h5; have h9x7 : (c 169 y3_2.toInt.toNat).toInt = x7.toInt := congrArg Int32.toInt ex7.symm; rw [h9x7] at h5; have h4 := HsI_m hs_H hs_T9 (by omega) h5; rw [← hmk] at h4; have h3 := congrArg Int32.toInt (show x8 = b1 from ex8.trans h4); omega)) (by have h50 : x12.toInt = (y3_3.toInt + 1) := tx12; have h51 : x11.toInt = (x10.toInt % 1024) := bx11; omega) _ _ _ hP hS (lv_sub hl [0, 1, 2, 3] rfl)
          · have f9 := (ti_eq (a := x8.toInt) (b := b1.toInt) rfl rfl).mp c9
            refine lv_aload_n hx hb dX7_slotFor_43 rfl (lv_at hl 2 rfl) ?_
            refine lv_aload_n hx hb dX7_slotFor_44 rfl (lv_at hl 2 rfl) ?_
            refine xgS_S_slots hx hb hts (fun _ h => List.mem_cons_of_mem _ (List.mem_append_left _ (List.mem_append_left _ (List.mem_append_right _ h)))) hown hK hP (hts (.fieldLink RX7 18 "TalePlay$Seeker" "slots" "[I") (List.mem_cons_of_mem _ (List.mem_append_left _ (List.mem_append_left _ (List.mem_append_left _ (List.mem_of_getElem? (i := 1) rfl)))))) dX7_slotFor_45 ?_
            refine lv_iload_n hx hb dX7_slotFor_48 rfl (lv_at hl 1 rfl) ?_
            refine xlS_169 hx hb hK hP (vp_in_iff.mpr (by have h9 : y3_2.toInt = y3_2.toInt := rfl; omega)) dX7_slotFor_49 (fun x13 ex13 => ?_)
            have rx13 : x13.toInt = -9 ∨ (0 ≤ x13.toInt ∧ x13.toInt ≤ 299) := by rw [ex13]; exact hI.2 169 _
            have gx13 : (c 169 (y3_2 : Int32).toNatClampNeg).toInt = x13.toInt := (congrArg Int32.toInt ex13).symm
            have hqx13 : x13.toInt = -9 ∨ (0 ≤ x13.toInt ∧ x13.toInt < (i 174).toInt) := by have h9 := hs_H.1 y3_2.toInt.toNat (by omega); rw [show (c 169 y3_2.toInt.toNat) = x13 from ex13.symm] at h9; exact h9
            refine ro_calli (va_runV (As := [.int x13]) (rest := []) ⟨hx, hb, hml, hown, hts⟩ (x_X7_isScene_eS l D H.size .null a t i q c d x13 hI (show 0 ≤ x13.toInt ∧ x13.toInt ≤ 299 from by omega)) (cwV 1 hts gm_X7_slotFor_eS_X7_isScene_eS_164 rfl rfl rfl (by decide +kernel) ⟨Nat.le_of_ble_eq_true rfl, Nat.le_of_ble_eq_true rfl⟩) (yA_V hN (xZ_k hZ hS hA) hK hP (ci := 7) (q0 := 31) rfl rfl) rfl rfl hl.1 rfl (lv_room (Nat.le_of_ble_eq_true rfl)) dX7_slotFor_50 ⟨Nat.le_of_ble_eq_true rfl, Nat.le_of_ble_eq_true rfl⟩) hS hA hP (fun r14 u14 H locs hw14 hP hS => ?_)
            have hw14 : ((0 ≤ r14.toInt ∧ r14.toInt ≤ 1) ∧ (Sm r14 (ScK (c 179) (c 167) (i 111).toInt x13.toInt.toNat))) := hw14
            obtain ⟨hw14, hr14_0⟩ := hw14
            have hr14_0 : Sm r14 (ScK (c 179) (c 167) (i 111).toInt x13.toInt.toNat) := hr14_0
            refine lv_if_eq (tgt := 58) hx hb dX7_slotFor_53 (by decide +kernel) (fun c15 => ?_) (fun c15 => ?_)
            · have f15 := (ti_eq (a := r14.toInt) (b := 0) rfl (by decide +kernel)).mp c15
              have s15 := sm_f hr14_0 c15
              refine lv_iload_n hx hb dX7_slotFor_58 rfl (lv_at hl 1 rfl) ?_
              refine lv_iconst (v := 1) hx hb dX7_slotFor_59 (by decide +kernel) ?_
              refine lv_iadd hx hb dX7_slotFor_60 ?_
              refine lv_topi (fun x16 ex16 => ?_)
              have tx16 := ti_add (a := y3_2.toInt) (b := 1) ex16 rfl (by decide +kernel) (by omega) (by omega)
              refine lv_sipush (v := 1023) hx hb dX7_slotFor_61 (by decide +kernel) ?_
              refine lv_iand hx hb dX7_slotFor_64 ?_
              refine lv_topi (fun x17 ex17 => ?_)
              have bx17 := and1023 (by have h50 : x16.toInt = (y3_2.toInt + 1) := tx16; omega) ex17
              refine lv_istore_n (lv' := [(2, .int x17), (3, .int y3_3), (0, .ref (a 166)), (1, .int b1)]) hx hb dX7_slotFor_65 rfl hl (by decide +kernel) rfl (fun ls hl => ?_)
              obtain ⟨x18, ex18⟩ : ∃ y : Int32, y = y3_3 + 1 := ⟨_, rfl⟩
              have tx18 := ti_add (a := y3_3.toInt) (b := 1) ex18 rfl (by decide +kernel) (by omega) (by omega)
              refine lv_iinc (v := x18) (lv' := [(3, .int x18), (2, .int x17), (0, .ref (a 166)), (1, .int b1)]) hx hb dX7_slotFor_66 hl (k := 1) rfl (by rw [ex18]; rfl) (by decide +kernel) rfl (fun ls hl => ?_)
              refine lv_goto (tgt := 10) hx hb dX7_slotFor_69 (by decide +kernel) ?_
              exact ih3 x18 x17 (show 0 ≤ x18.toInt ∧ x18.toInt ≤ 1024 from by have h50 : x18.toInt = (y3_3.toInt + 1) := tx18; have h51 : x17.toInt = (x16.toInt % 1024) := bx17; omega) (show 0 ≤ x17.toInt ∧ x17.toInt ≤ 1023 from by have h50 : x18.toInt = (y3_3.toInt + 1) := tx18; have h51 : x17.toInt = (x16.toInt % 1024) := bx17; omega) (show x17.toInt.toNat = prS b1 x18.toInt.toNat from by have h8 := prS_s (m := b1) (t := y3_3.toInt.toNat) (by omega); rw [← hz3_0] at h8; have h7 : x17.toInt = (x16.toInt % 1024) := bx17; have h6 : x18.toInt = (y3_3.toInt + 1) := tx18; rw [show x18.toInt.toNat = y3_3.toInt.toNat + 1 by omega, ← h8]; omega) (show SlK (c 169) (c 167) (c 179) b1 (i 111).toInt x18.toInt.toNat from by have h6 : x18.toInt = (y3_3.toInt + 1) := tx18; rw [show x18.toInt.toNat = y3_3.toInt.toNat + 1 by omega]; exact SlK_s hz3_1 (by rw [← hz3_0]; have h9x5 : (c 169 y3_2.toInt.toNat).toInt = x5.toInt := congrArg Int32.toInt ex5.symm; omega) (by rw [← hz3_0]; have h9x13 : (c 169 y3_2.toInt.toNat).toInt = x13.toInt := congrArg Int32.toInt ex13.symm; rw [h9x13]; exact s15)) (by have h50 : x18.toInt = (y3_3.toInt + 1) := tx18; have h51 : x17.toInt = (x16.toInt % 1024) := bx17; omega) _ _ _ hP hS (lv_sub hl [0, 1, 2, 3] rfl)
            · have f15 := mt (ti_eq (a := r14.toInt) (b := 0) rfl (by decide +kernel)).mpr c15
              have s15 := sm_t hr14_0 c15
              refine lv_iload_n hx hb dX7_slotFor_56 rfl (lv_at hl 1 rfl) ?_
              exact ro_iret hx hb hr hlocks hS dX7_slotFor_57 ⟨(show 0 ≤ y3_2.toInt ∧ y3_2.toInt ≤ 1023 from by omega), (show SlR (c 169) (c 167) (c 179) b1 (i 111).toInt (i 174).toInt y3_2 from ⟨y3_3.toInt.toNat, by omega, hz3_0, fun t9 h9 => (hz3_1 t9 h9).1, Or.inr ⟨by show ¬ (c 169 y3_2.toInt.toNat).toInt = -9; have h9x5 : (c 169 y3_2.toInt.toNat).toInt = x5.toInt := congrArg Int32.toInt ex5.symm; omega, x13.toInt.toNat, by omega, s15⟩⟩)⟩
  exact lp3 _ (0 : Int32) x2 (show 0 ≤ (0 : Int32).toInt ∧ (0 : Int32).toInt ≤ 1024 from by decide +kernel) (show 0 ≤ x2.toInt ∧ x2.toInt ≤ 1023 from by have h50 : (0 : Int32).toInt = 0 := (by decide +kernel); omega) (show x2.toInt.toNat = prS b1 (0 : Int32).toInt.toNat from by rw [show (0 : Int32).toInt.toNat = 0 by decide, prS_0]; unfold hmV; rw [← ex1, ← ex2]) (show SlK (c 169) (c 167) (c 179) b1 (i 111).toInt (0 : Int32).toInt.toNat from by rw [show (0 : Int32).toInt.toNat = 0 by decide]; exact SlK_0) (Nat.lt_succ_self _) _ _ _ hP hS (lv_sub hl [0, 1, 2, 3] rfl)

