def wm_X11_digestKinds_eLX : List Cond := .code yX11_digestKinds cX11_digestKinds 7 (some .long) :: (([.fieldLink RX11 10 "TalePlay" "world" "LTalePlay$World;", .fieldLink RX11 84 "TalePlay$World" "kinds" "I", .constantLong RX11 362 (31), .fieldLink RX11 364 "TalePlay$World" "parents" "[I", .fieldLink RX11 367 "TalePlay$World" "standards" "[I"] : List Cond) ++ wsX110 ++ wsX100)
set_option maxHeartbeats 4000000 in
set_option maxRecDepth 100000 in
theorem x_X11_digestKinds_eLX (l : Launch) (D : va_G) (sz : Nat) (sk : Value) (a : Nat → Nat) (t : Nat → ClassId) (i : Nat → Int32) (q : Int64) (c : Nat → Nat → Int32) (d : Nat → Nat → Int64) (v1 : Int64) (hI : xInv i c) : Met l yX11_digestKinds wm_X11_digestKinds_eLX ({ frames := 0, cells := 0, slots := 0, locals := 0 }) (va_Pc [.ref (a 100), .long v1] (yA (a 186) D sz (xwT sk a t i q c d) (xtT t))) (va_Ql (fun (r : Int64) (_ : Unit) => (True ∧ (r = dgN (dgK (c 105) (c 107)) (i 110).toInt.toNat v1))) oA (ro sz)) 0 0 (ro sz) := by
  refine Met.ofW (cc := cX11_digestKinds) (maxL := 7) (ret := (some .long)) (by decide +kernel) rfl ?_
  intro p e s m args below meth cd s₁ B hml hv
  obtain ⟨rfl, ⟨hsz, hP, hK⟩, hN, hZ⟩ := hv
  have hx := B.exec
  have hb := B.bytes
  have hr := B.returns
  have hts := atoms_spec (ws := wm_X11_digestKinds_eLX) B.pre
  have hown : s.vm.findClass RX11 = some m.cls := findClass_of_methodNamed B.named
  have hlocks := B.notSynchronized
  subst hsz
  have hA : ∀ q : Nat, s.heap.size ≤ q → ro s.heap.size q := fun _ h => h
  have hS : va_S (ro s.heap.size) s.heap s.heap [] := va_S.rf
  have hl := lv_entry ([.ref (a 100), .long v1]) (n := 7) (Nat.le_of_ble_eq_true rfl)
  rw [lg_entry_eq]
  generalize (lg_sl ([.ref (a 100), .long v1]) ++ List.replicate (7 - (lg_sl ([.ref (a 100), .long v1])).length) Slot.unset).toArray = ls at hl ⊢
  have hl : lv_has ls 7 [(0, .ref (a 100)), (1, .long v1)] := hl
  have rb110_i : 6 ≤ (i 110).toInt ∧ (i 110).toInt ≤ 24 := hI.1 110
  refine lv_lload_n hx hb dX11_digestKinds_0 rfl (lv_at hl 1 rfl) ?_
  refine lv_lstore_n (lv' := [(3, .long v1), (0, .ref (a 100)), (1, .long v1)]) hx hb dX11_digestKinds_1 rfl hl (by decide +kernel) rfl (fun ls hl => ?_)
  refine lv_iconst (v := 0) hx hb dX11_digestKinds_2 (by decide +kernel) ?_
  refine lv_istore (lv' := [(5, .int 0), (3, .long v1), (0, .ref (a 100)), (1, .long v1)]) hx hb dX11_digestKinds_3 hl (by decide +kernel) rfl (fun ls hl => ?_)
  have lp1 : ∀ (fu : Nat) (y1_5 : Int32) (y1_3 : Int64), (0 ≤ y1_5.toInt ∧ y1_5.toInt ≤ 24 ∧ y1_5.toInt ≤ (i 110).toInt) → (y1_3 = dgN (dgK (c 105) (c 107)) y1_5.toInt.toNat v1) → (30 - y1_5.toInt).toNat < fu → ∀ (H : Heap) (locs : List Loc) (ls : Array Slot), va_P D vwCl (xwT sk a t i q c d) H → va_S (ro s.heap.size) s.heap H locs → lv_has ls 7 [(5, .int y1_5), (3, .long y1_3), (0, .ref (a 100)), (1, .long v1)] → W p l e (headSpec wm_X11_digestKinds_eLX ({ frames := 0, cells := 0, slots := 0, locals := 0 })).room s m ([.ref (a 100), .long v1] : List Value).toArray below meth cd H locs 0 0 (MQ below (va_Ql (fun (r : Int64) (_ : Unit) => (True ∧ (r = dgN (dgK (c 105) (c 107)) (i 110).toInt.toNat v1))) oA (ro s.heap.size)) ([.ref (a 100), .long v1] : List Value).toArray s 0 0 (ro s.heap.size)) (F0 m 5 ls []) := by
    intro fu
    induction fu with
    | zero => intro y1_5 y1_3 hy1_5 hz1_0 hm; exact absurd hm (Nat.not_lt_zero _)
    | succ fu ih =>
      intro y1_5 y1_3 hy1_5 hz1_0 hm H locs ls hP hS hl
      have ih1 := ih
      refine lv_iload hx hb dX11_digestKinds_5 (lv_at hl 0 rfl) ?_
      refine lv_aload_n hx hb dX11_digestKinds_7 rfl (lv_at hl 2 rfl) ?_
      refine xgT_X_world hx hb hts (fun _ h => List.mem_cons_of_mem _ (List.mem_append_left _ (List.mem_append_right _ h))) hown hK hP (hts (.fieldLink RX11 10 "TalePlay" "world" "LTalePlay$World;") (List.mem_cons_of_mem _ (List.mem_append_left _ (List.mem_append_left _ (List.mem_of_getElem? (i := 0) rfl))))) dX11_digestKinds_8 ?_
      refine xgT_W_kinds (v := (i 110)) rfl hx hb hts (fun _ h => List.mem_cons_of_mem _ (List.mem_append_right _ h)) hown hK hP (hts (.fieldLink RX11 84 "TalePlay$World" "kinds" "I") (List.mem_cons_of_mem _ (List.mem_append_left _ (List.mem_append_left _ (List.mem_of_getElem? (i := 1) rfl))))) dX11_digestKinds_11 ?_
      refine lv_icmp_ge (tgt := 81) hx hb dX11_digestKinds_14 (by decide +kernel) (fun c2 => ?_) (fun c2 => ?_)
      · have f2 := (ti_le (a := (i 110).toInt) (b := y1_5.toInt) rfl rfl).mp c2
        refine lv_lload_n hx hb dX11_digestKinds_81 rfl (lv_at hl 1 rfl) ?_
        exact ro_lret hx hb hr hlocks hS dX11_digestKinds_82 ⟨trivial, (show y1_3 = dgN (dgK (c 105) (c 107)) (i 110).toInt.toNat v1 from dgN_n hz1_0 (by omega))⟩
      · have f2 := mt (ti_le (a := (i 110).toInt) (b := y1_5.toInt) rfl rfl).mpr c2
        refine lv_ldc2 (v := 31) hx hb hown (hts (.constantLong RX11 362 (31)) (List.mem_cons_of_mem _ (List.mem_append_left _ (List.mem_append_left _ (List.mem_of_getElem? (i := 2) rfl))))) dX11_digestKinds_17 ?_
        refine lv_lload_n hx hb dX11_digestKinds_20 rfl (lv_at hl 1 rfl) ?_
        refine lv_lmul hx hb dX11_digestKinds_21 ?_
        refine lv_topl (fun x3 ex3 => ?_)
        refine lv_aload_n hx hb dX11_digestKinds_22 rfl (lv_at hl 2 rfl) ?_
        refine xgT_X_world hx hb hts (fun _ h => List.mem_cons_of_mem _ (List.mem_append_left _ (List.mem_append_right _ h))) hown hK hP (hts (.fieldLink RX11 10 "TalePlay" "world" "LTalePlay$World;") (List.mem_cons_of_mem _ (List.mem_append_left _ (List.mem_append_left _ (List.mem_of_getElem? (i := 0) rfl))))) dX11_digestKinds_23 ?_
        refine xgT_W_parents hx hb hts (fun _ h => List.mem_cons_of_mem _ (List.mem_append_right _ h)) hown hK hP (hts (.fieldLink RX11 364 "TalePlay$World" "parents" "[I") (List.mem_cons_of_mem _ (List.mem_append_left _ (List.mem_append_left _ (List.mem_of_getElem? (i := 3) rfl))))) dX11_digestKinds_26 ?_
        refine lv_iload hx hb dX11_digestKinds_29 (lv_at hl 0 rfl) ?_
        refine xlT_105 hx hb hK hP (vp_in_iff.mpr (by have h9 : y1_5.toInt = y1_5.toInt := rfl; omega)) dX11_digestKinds_31 (fun x4 ex4 => ?_)
        have rx4 : x4.toInt = -9 ∨ (0 ≤ x4.toInt ∧ x4.toInt ≤ 23) := by rw [ex4]; exact hI.2 105 _
        have gx4 : (c 105 (y1_5 : Int32).toNatClampNeg).toInt = x4.toInt := (congrArg Int32.toInt ex4).symm
        refine lv_i2l (v := x4.toInt64) hx hb dX11_digestKinds_32 rfl ?_
        refine lv_ladd hx hb dX11_digestKinds_33 ?_
        refine lv_topl (fun x5 ex5 => ?_)
        have hdx5 : x5 = dI y1_3 ((c 105 (y1_5 : Int32).toNatClampNeg).toInt) := dI_e ex3 ex5 gx4
        refine lv_lstore_n (lv' := [(3, .long x5), (5, .int y1_5), (0, .ref (a 100)), (1, .long v1)]) hx hb dX11_digestKinds_34 rfl hl (by decide +kernel) rfl (fun ls hl => ?_)
        refine lv_iconst (v := 0) hx hb dX11_digestKinds_35 (by decide +kernel) ?_
        refine lv_istore (lv' := [(6, .int 0), (3, .long x5), (5, .int y1_5), (0, .ref (a 100)), (1, .long v1)]) hx hb dX11_digestKinds_36 hl (by decide +kernel) rfl (fun ls hl => ?_)
        have lp6 : ∀ (fu : Nat) (y6_6 : Int32) (y6_3 : Int64), (0 ≤ y6_6.toInt ∧ y6_6.toInt ≤ 6) → (y6_3 = dgN (dgF (c 107) y1_5.toInt.toNat) y6_6.toInt.toNat (dI (dgN (dgK (c 105) (c 107)) y1_5.toInt.toNat v1) (c 105 y1_5.toInt.toNat).toInt)) → (6 - y6_6.toInt).toNat < fu → ∀ (H : Heap) (locs : List Loc) (ls : Array Slot), va_P D vwCl (xwT sk a t i q c d) H → va_S (ro s.heap.size) s.heap H locs → lv_has ls 7 [(6, .int y6_6), (3, .long y6_3), (5, .int y1_5), (0, .ref (a 100)), (1, .long v1)] → W p l e (headSpec wm_X11_digestKinds_eLX ({ frames := 0, cells := 0, slots := 0, locals := 0 })).room s m ([.ref (a 100), .long v1] : List Value).toArray below meth cd H locs 0 0 (MQ below (va_Ql (fun (r : Int64) (_ : Unit) => (True ∧ (r = dgN (dgK (c 105) (c 107)) (i 110).toInt.toNat v1))) oA (ro s.heap.size)) ([.ref (a 100), .long v1] : List Value).toArray s 0 0 (ro s.heap.size)) (F0 m 38 ls []) := by
          intro fu
          induction fu with
          | zero => intro y6_6 y6_3 hy6_6 hz6_0 hm; exact absurd hm (Nat.not_lt_zero _)
          | succ fu ih =>
            intro y6_6 y6_3 hy6_6 hz6_0 hm H locs ls hP hS hl
            have ih6 := ih
            refine lv_iload hx hb dX11_digestKinds_38 (lv_at hl 0 rfl) ?_
            refine lv_bipush (v := 6) hx hb dX11_digestKinds_40 (by decide +kernel) ?_
            refine lv_icmp_ge (tgt := 75) hx hb dX11_digestKinds_42 (by decide +kernel) (fun c7 => ?_) (fun c7 => ?_)
            · have f7 := (ti_le (a := 6) (b := y6_6.toInt) (by decide +kernel) rfl).mp c7
              obtain ⟨x8, ex8⟩ : ∃ y : Int32, y = y1_5 + 1 := ⟨_, rfl⟩
              have tx8 := ti_add (a := y1_5.toInt) (b := 1) ex8 rfl (by decide +kernel) (by omega) (by omega)
              refine lv_iinc (v := x8) (lv' := [(5, .int x8), (6, .int y6_6), (3, .long y6_3), (0, .ref (a 100)), (1, .long v1)]) hx hb dX11_digestKinds_75 hl (k := 2) rfl (by rw [ex8]; rfl) (by decide +kernel) rfl (fun ls hl => ?_)
              refine lv_goto (tgt := 5) hx hb dX11_digestKinds_78 (by decide +kernel) ?_
              exact ih1 x8 y6_3 (show 0 ≤ x8.toInt ∧ x8.toInt ≤ 24 ∧ x8.toInt ≤ (i 110).toInt from by have h50 : x8.toInt = (y1_5.toInt + 1) := tx8; omega) (show y6_3 = dgN (dgK (c 105) (c 107)) x8.toInt.toNat v1 from dgN_s rfl (by omega) tx8 (dgK_e (hz6_0) (by omega))) (by have h50 : x8.toInt = (y1_5.toInt + 1) := tx8; omega) _ _ _ hP hS (lv_sub hl [0, 2, 3, 4] rfl)
            · have f7 := mt (ti_le (a := 6) (b := y6_6.toInt) (by decide +kernel) rfl).mpr c7
              refine lv_ldc2 (v := 31) hx hb hown (hts (.constantLong RX11 362 (31)) (List.mem_cons_of_mem _ (List.mem_append_left _ (List.mem_append_left _ (List.mem_of_getElem? (i := 2) rfl))))) dX11_digestKinds_45 ?_
              refine lv_lload_n hx hb dX11_digestKinds_48 rfl (lv_at hl 1 rfl) ?_
              refine lv_lmul hx hb dX11_digestKinds_49 ?_
              refine lv_topl (fun x9 ex9 => ?_)
              refine lv_aload_n hx hb dX11_digestKinds_50 rfl (lv_at hl 3 rfl) ?_
              refine xgT_X_world hx hb hts (fun _ h => List.mem_cons_of_mem _ (List.mem_append_left _ (List.mem_append_right _ h))) hown hK hP (hts (.fieldLink RX11 10 "TalePlay" "world" "LTalePlay$World;") (List.mem_cons_of_mem _ (List.mem_append_left _ (List.mem_append_left _ (List.mem_of_getElem? (i := 0) rfl))))) dX11_digestKinds_51 ?_
              refine xgT_W_standards hx hb hts (fun _ h => List.mem_cons_of_mem _ (List.mem_append_right _ h)) hown hK hP (hts (.fieldLink RX11 367 "TalePlay$World" "standards" "[I") (List.mem_cons_of_mem _ (List.mem_append_left _ (List.mem_append_left _ (List.mem_of_getElem? (i := 4) rfl))))) dX11_digestKinds_54 ?_
              refine lv_iload hx hb dX11_digestKinds_57 (lv_at hl 2 rfl) ?_
              refine lv_bipush (v := 6) hx hb dX11_digestKinds_59 (by decide +kernel) ?_
              refine lv_imul hx hb dX11_digestKinds_61 ?_
              refine lv_topi (fun x10 ex10 => ?_)
              have tx10 := ti_mul (a := y1_5.toInt) (b := 6) ex10 rfl (by decide +kernel) (by omega) (by omega)
              refine lv_iload hx hb dX11_digestKinds_62 (lv_at hl 0 rfl) ?_
              refine lv_iadd hx hb dX11_digestKinds_64 ?_
              refine lv_topi (fun x11 ex11 => ?_)
              have tx11 := ti_add (a := (y1_5.toInt * 6)) (b := y6_6.toInt) ex11 tx10 rfl (by omega) (by omega)
              refine xlT_107 hx hb hK hP (vp_in_iff.mpr (by have h9 : x11.toInt = ((y1_5.toInt * 6) + y6_6.toInt) := tx11; omega)) dX11_digestKinds_65 (fun x12 ex12 => ?_)
              have rx12 : x12.toInt = -9 ∨ (0 ≤ x12.toInt ∧ x12.toInt ≤ 1) := by rw [ex12]; exact hI.2 107 _
              refine lv_i2l (v := x12.toInt64) hx hb dX11_digestKinds_66 rfl ?_
              refine lv_ladd hx hb dX11_digestKinds_67 ?_
              refine lv_topl (fun x13 ex13 => ?_)
              have hdx13 : x13 = dI y6_3 (x12.toInt) := dI_e ex9 ex13 rfl
              refine lv_lstore_n (lv' := [(3, .long x13), (6, .int y6_6), (5, .int y1_5), (0, .ref (a 100)), (1, .long v1)]) hx hb dX11_digestKinds_68 rfl hl (by decide +kernel) rfl (fun ls hl => ?_)
              obtain ⟨x14, ex14⟩ : ∃ y : Int32, y = y6_6 + 1 := ⟨_, rfl⟩
              have tx14 := ti_add (a := y6_6.toInt) (b := 1) ex14 rfl (by decide +kernel) (by omega) (by omega)
              refine lv_iinc (v := x14) (lv' := [(6, .int x14), (3, .long x13), (5, .int y1_5), (0, .ref (a 100)), (1, .long v1)]) hx hb dX11_digestKinds_69 hl (k := 1) rfl (by rw [ex14]; rfl) (by decide +kernel) rfl (fun ls hl => ?_)
              refine lv_goto (tgt := 38) hx hb dX11_digestKinds_72 (by decide +kernel) ?_
              exact ih6 x14 x13 (show 0 ≤ x14.toInt ∧ x14.toInt ≤ 6 from by have h50 : x14.toInt = (y6_6.toInt + 1) := tx14; omega) (show x13 = dgN (dgF (c 107) y1_5.toInt.toNat) x14.toInt.toNat (dI (dgN (dgK (c 105) (c 107)) y1_5.toInt.toNat v1) (c 105 y1_5.toInt.toNat).toInt) from dgN_s hz6_0 (by omega) tx14 (dgF_e hdx13 (by omega) (by omega) (show (x11 : Int32).toInt = 6 * y1_5.toInt + y6_6.toInt from by omega) ex12)) (by have h50 : x14.toInt = (y6_6.toInt + 1) := tx14; omega) _ _ _ hP hS (lv_sub hl [0, 1, 2, 3, 4] rfl)
        exact lp6 _ (0 : Int32) x5 (show 0 ≤ (0 : Int32).toInt ∧ (0 : Int32).toInt ≤ 6 from by have h50 : (0 : Int32).toInt = 0 := (by decide +kernel); omega) (show x5 = dgN (dgF (c 107) y1_5.toInt.toNat) (0 : Int32).toInt.toNat (dI (dgN (dgK (c 105) (c 107)) y1_5.toInt.toNat v1) (c 105 y1_5.toInt.toNat).toInt) from (show _ = dI (dgN (dgK (c 105) (c 107)) y1_5.toInt.toNat v1) (c 105 y1_5.toInt.toNat).toInt from by rw [← hz1_0]; exact hdx5).trans (dgN_0 (by decide +kernel))) (Nat.lt_succ_self _) _ _ _ hP hS (lv_sub hl [0, 1, 2, 3, 4] rfl)
  exact lp1 _ (0 : Int32) v1 (show 0 ≤ (0 : Int32).toInt ∧ (0 : Int32).toInt ≤ 24 ∧ (0 : Int32).toInt ≤ (i 110).toInt from by have h50 : (0 : Int32).toInt = 0 := (by decide +kernel); omega) (show v1 = dgN (dgK (c 105) (c 107)) (0 : Int32).toInt.toNat v1 from dgN_0 (by decide +kernel)) (Nat.lt_succ_self _) _ _ _ hP hS (lv_sub hl [0, 1, 2, 3] rfl)

