def wm_X10_kindIs_e : List Cond := .code yX10_kindIs cX10_kindIs 5 (some .boolean) :: (([.fieldLink RX10 9 "TalePlay$World" "parents" "[I"] : List Cond) ++ wsX100)
set_option maxHeartbeats 4000000 in
set_option maxRecDepth 100000 in
theorem x_X10_kindIs_e (l : Launch) (D : va_G) (sz : Nat) (sk : Value) (a : Nat → Nat) (t : Nat → ClassId) (i : Nat → Int32) (q : Int64) (c : Nat → Nat → Int32) (d : Nat → Nat → Int64) (k1 : Int32) (k2 : Int32) (hI : xInv i c) (hk1 : 0 ≤ k1.toInt ∧ k1.toInt ≤ 23) (hk2 : 0 ≤ k2.toInt) (hs_D : PD (c 105)) : Met l yX10_kindIs wm_X10_kindIs_e ({ frames := 0, cells := 0, slots := 0, locals := 0 }) (va_Pc [.ref (a 104), .int k1, .int k2] (yA (a 186) D sz (xwW sk a t i q c d) (xtW t))) (va_Qi (fun (r : Int32) (_ : Unit) => ((0 ≤ r.toInt ∧ r.toInt ≤ 1) ∧ (Sm r (Ch (kF (c 105)) k1.toInt k2.toInt)))) oA (ro sz)) 0 0 (ro sz) := by
  refine Met.ofW (cc := cX10_kindIs) (maxL := 5) (ret := (some .boolean)) (by decide +kernel) rfl ?_
  intro p e s m args below meth cd s₁ B hml hv
  obtain ⟨rfl, ⟨hsz, hP, hK⟩, hN, hZ⟩ := hv
  have hx := B.exec
  have hb := B.bytes
  have hr := B.returns
  have hts := atoms_spec (ws := wm_X10_kindIs_e) B.pre
  have hown : s.vm.findClass RX10 = some m.cls := findClass_of_methodNamed B.named
  have hlocks := B.notSynchronized
  subst hsz
  have hA : ∀ q : Nat, s.heap.size ≤ q → ro s.heap.size q := fun _ h => h
  have hS : va_S (ro s.heap.size) s.heap s.heap [] := va_S.rf
  have hl := lv_entry ([.ref (a 104), .int k1, .int k2]) (n := 5) (Nat.le_of_ble_eq_true rfl)
  rw [lg_entry_eq]
  generalize (lg_sl ([.ref (a 104), .int k1, .int k2]) ++ List.replicate (5 - (lg_sl ([.ref (a 104), .int k1, .int k2])).length) Slot.unset).toArray = ls at hl ⊢
  have hl : lv_has ls 5 [(0, .ref (a 104)), (1, .int k1), (2, .int k2)] := hl
  refine lv_iload_n hx hb dX10_kindIs_0 rfl (lv_at hl 1 rfl) ?_
  refine lv_istore_n (lv' := [(3, .int k1), (0, .ref (a 104)), (1, .int k1), (2, .int k2)]) hx hb dX10_kindIs_1 rfl hl (by decide +kernel) rfl (fun ls hl => ?_)
  refine lv_iconst (v := 0) hx hb dX10_kindIs_2 (by decide +kernel) ?_
  refine lv_istore (lv' := [(4, .int 0), (3, .int k1), (0, .ref (a 104)), (1, .int k1), (2, .int k2)]) hx hb dX10_kindIs_3 hl (by decide +kernel) rfl (fun ls hl => ?_)
  have lp1 : ∀ (fu : Nat) (y1_4 : Int32) (y1_3 : Int32), (0 ≤ y1_4.toInt ∧ y1_4.toInt ≤ 24) → (y1_3.toInt = -9 ∨ (0 ≤ y1_3.toInt ∧ y1_3.toInt ≤ 23)) → (Ch (kF (c 105)) k1.toInt k2.toInt ↔ Ch (kF (c 105)) y1_3.toInt k2.toInt) → (y1_3.toInt = -9 ∨ y1_3.toInt + y1_4.toInt ≤ 23) → (24 - y1_4.toInt).toNat < fu → ∀ (H : Heap) (locs : List Loc) (ls : Array Slot), va_P D vwCl (xwW sk a t i q c d) H → va_S (ro s.heap.size) s.heap H locs → lv_has ls 5 [(4, .int y1_4), (3, .int y1_3), (0, .ref (a 104)), (1, .int k1), (2, .int k2)] → W p l e (headSpec wm_X10_kindIs_e ({ frames := 0, cells := 0, slots := 0, locals := 0 })).room s m ([.ref (a 104), .int k1, .int k2] : List Value).toArray below meth cd H locs 0 0 (MQ below (va_Qi (fun (r : Int32) (_ : Unit) => ((0 ≤ r.toInt ∧ r.toInt ≤ 1) ∧ (Sm r (Ch (kF (c 105)) k1.toInt k2.toInt)))) oA (ro s.heap.size)) ([.ref (a 104), .int k1, .int k2] : List Value).toArray s 0 0 (ro s.heap.size)) (F0 m 5 ls []) := by
    intro fu
    induction fu with
    | zero => intro y1_4 y1_3 hy1_4 hy1_3 hz1_0 hz1_1 hm; exact absurd hm (Nat.not_lt_zero _)
    | succ fu ih =>
      intro y1_4 y1_3 hy1_4 hy1_3 hz1_0 hz1_1 hm H locs ls hP hS hl
      have ih1 := ih
      refine lv_iload hx hb dX10_kindIs_5 (lv_at hl 0 rfl) ?_
      refine lv_bipush (v := 24) hx hb dX10_kindIs_7 (by decide +kernel) ?_
      refine lv_icmp_ge (tgt := 38) hx hb dX10_kindIs_9 (by decide +kernel) (fun c2 => ?_) (fun c2 => ?_)
      · have f2 := (ti_le (a := 24) (b := y1_4.toInt) (by decide +kernel) rfl).mp c2
        refine lv_iconst (v := 0) hx hb dX10_kindIs_38 (by decide +kernel) ?_
        exact ro_zret hx hb hr hlocks hS rfl dX10_kindIs_39 ⟨(show 0 ≤ (0 : Int32).toInt ∧ (0 : Int32).toInt ≤ 1 from by have h9 : (0 : Int32).toInt = 0 := (by decide +kernel); omega), (show Sm (0 : Int32) (Ch (kF (c 105)) k1.toInt k2.toInt) from sm_0 (fun h9 => by have h8 := hz1_0.mp h9; rw [show y1_3.toInt = -9 by omega] at h8; have h7 := Ch_nd kF_9 h8; omega))⟩
      · have f2 := mt (ti_le (a := 24) (b := y1_4.toInt) (by decide +kernel) rfl).mpr c2
        refine lv_iload_n hx hb dX10_kindIs_12 rfl (lv_at hl 1 rfl) ?_
        refine lv_bipush (v := (-9)) hx hb dX10_kindIs_13 (by decide +kernel) ?_
        refine lv_icmp_eq (tgt := 38) hx hb dX10_kindIs_15 (by decide +kernel) (fun c3 => ?_) (fun c3 => ?_)
        · have f3 := (ti_eq (a := y1_3.toInt) (b := (-9)) rfl (by decide +kernel)).mp c3
          refine lv_iconst (v := 0) hx hb dX10_kindIs_38 (by decide +kernel) ?_
          exact ro_zret hx hb hr hlocks hS rfl dX10_kindIs_39 ⟨(show 0 ≤ (0 : Int32).toInt ∧ (0 : Int32).toInt ≤ 1 from by have h9 : (0 : Int32).toInt = 0 := (by decide +kernel); omega), (show Sm (0 : Int32) (Ch (kF (c 105)) k1.toInt k2.toInt) from sm_0 (fun h9 => by have h8 := hz1_0.mp h9; rw [show y1_3.toInt = -9 by omega] at h8; have h7 := Ch_nd kF_9 h8; omega))⟩
        · have f3 := mt (ti_eq (a := y1_3.toInt) (b := (-9)) rfl (by decide +kernel)).mpr c3
          refine lv_iload_n hx hb dX10_kindIs_18 rfl (lv_at hl 1 rfl) ?_
          refine lv_iload_n hx hb dX10_kindIs_19 rfl (lv_at hl 4 rfl) ?_
          refine lv_icmp_ne (tgt := 25) hx hb dX10_kindIs_20 (by decide +kernel) (fun c4 => ?_) (fun c4 => ?_)
          · have f4 := mt (ti_eq (a := y1_3.toInt) (b := k2.toInt) rfl rfl).mpr c4
            refine lv_aload_n hx hb dX10_kindIs_25 rfl (lv_at hl 2 rfl) ?_
            refine xgW_W_parents hx hb hts (fun _ h => List.mem_cons_of_mem _ (List.mem_append_right _ h)) hown hK hP (hts (.fieldLink RX10 9 "TalePlay$World" "parents" "[I") (List.mem_cons_of_mem _ (List.mem_append_left _ (List.mem_of_getElem? (i := 0) rfl)))) dX10_kindIs_26 ?_
            refine lv_iload_n hx hb dX10_kindIs_29 rfl (lv_at hl 1 rfl) ?_
            refine xlW_105 hx hb hK hP (vp_in_iff.mpr (by have h9 : y1_3.toInt = y1_3.toInt := rfl; omega)) dX10_kindIs_30 (fun x5 ex5 => ?_)
            have rx5 : x5.toInt = -9 ∨ (0 ≤ x5.toInt ∧ x5.toInt ≤ 23) := by rw [ex5]; exact hI.2 105 _
            refine lv_istore_n (lv' := [(3, .int x5), (4, .int y1_4), (0, .ref (a 104)), (1, .int k1), (2, .int k2)]) hx hb dX10_kindIs_31 rfl hl (by decide +kernel) rfl (fun ls hl => ?_)
            obtain ⟨x6, ex6⟩ : ∃ y : Int32, y = y1_4 + 1 := ⟨_, rfl⟩
            have tx6 := ti_add (a := y1_4.toInt) (b := 1) ex6 rfl (by decide +kernel) (by omega) (by omega)
            refine lv_iinc (v := x6) (lv' := [(4, .int x6), (3, .int x5), (0, .ref (a 104)), (1, .int k1), (2, .int k2)]) hx hb dX10_kindIs_32 hl (k := 1) rfl (by rw [ex6]; rfl) (by decide +kernel) rfl (fun ls hl => ?_)
            refine lv_goto (tgt := 5) hx hb dX10_kindIs_35 (by decide +kernel) ?_
            exact ih1 x6 x5 (show 0 ≤ x6.toInt ∧ x6.toInt ≤ 24 from by have h50 : x6.toInt = (y1_4.toInt + 1) := tx6; omega) (show x5.toInt = -9 ∨ (0 ≤ x5.toInt ∧ x5.toInt ≤ 23) from by have h50 : x6.toInt = (y1_4.toInt + 1) := tx6; omega) (show Ch (kF (c 105)) k1.toInt k2.toInt ↔ Ch (kF (c 105)) x5.toInt k2.toInt from hz1_0.trans (by rw [Ch_nx (f := kF (c 105)) (x := y1_3.toInt) (by omega), kF_at (by omega) ex5])) (show x5.toInt = -9 ∨ x5.toInt + x6.toInt ≤ 23 from by have h9 := hs_D y1_3.toNatClampNeg; rw [← ex5, cl_nn (by omega)] at h9; have h8 := tx6; omega) (by have h50 : x6.toInt = (y1_4.toInt + 1) := tx6; omega) _ _ _ hP hS (lv_sub hl [0, 1, 2, 3, 4] rfl)
          · have f4 := (ti_eq (a := y1_3.toInt) (b := k2.toInt) rfl rfl).mp c4
            refine lv_iconst (v := 1) hx hb dX10_kindIs_23 (by decide +kernel) ?_
            exact ro_zret hx hb hr hlocks hS rfl dX10_kindIs_24 ⟨(show 0 ≤ (1 : Int32).toInt ∧ (1 : Int32).toInt ≤ 1 from by have h9 : (1 : Int32).toInt = 1 := (by decide +kernel); omega), (show Sm (1 : Int32) (Ch (kF (c 105)) k1.toInt k2.toInt) from sm_1 (hz1_0.mpr (by rw [show y1_3.toInt = k2.toInt by omega]; exact Ch_rf)))⟩
  exact lp1 _ (0 : Int32) k1 (show 0 ≤ (0 : Int32).toInt ∧ (0 : Int32).toInt ≤ 24 from by have h50 : (0 : Int32).toInt = 0 := (by decide +kernel); omega) (show k1.toInt = -9 ∨ (0 ≤ k1.toInt ∧ k1.toInt ≤ 23) from by have h50 : (0 : Int32).toInt = 0 := (by decide +kernel); omega) (show Ch (kF (c 105)) k1.toInt k2.toInt ↔ Ch (kF (c 105)) k1.toInt k2.toInt from Iff.rfl) (show k1.toInt = -9 ∨ k1.toInt + (0 : Int32).toInt ≤ 23 from by have h50 : (0 : Int32).toInt = 0 := (by decide +kernel); omega) (Nat.lt_succ_self _) _ _ _ hP hS (lv_sub hl [0, 1, 2, 3, 4] rfl)

set_option maxHeartbeats 4000000 in
set_option maxRecDepth 100000 in
theorem c_X11_oneIf_e (l : Launch) (D : va_G) (sz : Nat) (z : Int32) : Met l yX11_oneIf wm_X11_oneIf ({ frames := 0, cells := 0, slots := 0, locals := 0 }) (va_Pc [.int z] (pA D sz [] [])) (va_Qi (fun (r : Int32) (_ : Unit) => r = if (¬ z.toInt = 0) then 1 else 0) oA (ro sz)) 0 0 (ro sz) := by
  refine Met.ofW (cc := cX11_oneIf) (maxL := 1) (ret := (some .int)) (by decide +kernel) rfl ?_
  intro p e s m args below meth c s₁ B hml hv
  obtain ⟨rfl, hsz, hP, hK⟩ := hv
  have hx := B.exec
  have hb := B.bytes
  have hr := B.returns
  have hts := atoms_spec (ws := wm_X11_oneIf) B.pre
  have hown : s.vm.findClass RX11 = some m.cls := findClass_of_methodNamed B.named
  have hlocks := B.notSynchronized
  subst hsz
  have hA : ∀ q : Nat, s.heap.size ≤ q → ro s.heap.size q := fun _ h => h
  have hS : va_S (ro s.heap.size) s.heap s.heap [] := va_S.rf
  have hP : va_P D vwCl [] s.heap := hP
  have hl := lv_entry ([.int z]) (n := 1) (Nat.le_of_ble_eq_true rfl)
  rw [lg_entry_eq]
  generalize (lg_sl ([.int z]) ++ List.replicate (1 - (lg_sl ([.int z])).length) Slot.unset).toArray = ls at hl ⊢
  have hl : lv_has ls 1 [(0, .int z)] := hl
  refine lv_iload_n hx hb dX11_oneIf_0 rfl (lv_at hl 0 rfl) ?_
  refine lv_if_eq (tgt := 8) hx hb dX11_oneIf_1 (by decide +kernel) (fun c1 => ?_) (fun c1 => ?_)
  · have f1 := (ti_eq (a := z.toInt) (b := 0) rfl (by decide +kernel)).mp c1
    refine lv_iconst (v := 0) hx hb dX11_oneIf_8 (by decide +kernel) ?_
    exact ro_iret hx hb hr hlocks hS dX11_oneIf_9 (by show _ = _; rw [if_neg (by omega)])
  · have f1 := mt (ti_eq (a := z.toInt) (b := 0) rfl (by decide +kernel)).mpr c1
    refine lv_iconst (v := 1) hx hb dX11_oneIf_4 (by decide +kernel) ?_
    refine lv_goto (tgt := 9) hx hb dX11_oneIf_5 (by decide +kernel) ?_
    exact ro_iret hx hb hr hlocks hS dX11_oneIf_9 (by show _ = _; rw [if_pos (by omega)])

def wm_X11_is_e : List Cond := .code yX11_is cX11_is 3 (some .int) :: ((([.fieldLink RX11 10 "TalePlay" "world" "LTalePlay$World;", .methodLink RX11 109 yX10_hasObject, .instanceMethod yX10_hasObject, .selects RX10 yX10_hasObject yX10_hasObject, .initialized RX10, .code yX10_hasObject cX10_hasObject 2 (some .boolean), .fieldLink RX10 37 "TalePlay$World" "objects" "I", .methodLink RX11 80 yX10_hasKind, .instanceMethod yX10_hasKind, .selects RX10 yX10_hasKind yX10_hasKind, .code yX10_hasKind cX10_hasKind 2 (some .boolean), .fieldLink RX10 33 "TalePlay$World" "kinds" "I", .fieldLink RX11 112 "TalePlay$World" "kindOf" "[I", .methodLink RX11 115 yX10_kindIs, .instanceMethod yX10_kindIs, .selects RX10 yX10_kindIs yX10_kindIs] : List Cond) ++ ([.code yX10_kindIs cX10_kindIs 5 (some .boolean), .fieldLink RX10 9 "TalePlay$World" "parents" "[I", .methodLink RX11 118 yX11_oneIf, .static yX11_oneIf, .initialized RX11, .code yX11_oneIf cX11_oneIf 1 (some .int)] : List Cond)) ++ wsX110 ++ wsX100)
set_option maxRecDepth 20000 in
theorem gm_X11_is_e_X10_hasObject_109 : GoodIn wm_X11_is_e (wsV RX11 109 RX10 yX10_hasObject wm_X10_hasObject) := goodIn_w (List.forall_mem_append.mpr ⟨List.forall_mem_cons.mpr ⟨List.mem_cons_of_mem _ (List.mem_append_left _ (List.mem_append_left _ (List.mem_append_left _ (List.mem_of_getElem? (i := 1) rfl)))), List.forall_mem_cons.mpr ⟨List.mem_cons_of_mem _ (List.mem_append_left _ (List.mem_append_left _ (List.mem_append_left _ (List.mem_of_getElem? (i := 2) rfl)))), List.forall_mem_cons.mpr ⟨List.mem_cons_of_mem _ (List.mem_append_left _ (List.mem_append_left _ (List.mem_append_left _ (List.mem_of_getElem? (i := 3) rfl)))), List.forall_mem_cons.mpr ⟨List.mem_cons_of_mem _ (List.mem_append_left _ (List.mem_append_left _ (List.mem_append_left _ (List.mem_of_getElem? (i := 4) rfl)))), (fun _ h => absurd h List.not_mem_nil)⟩⟩⟩⟩, List.forall_mem_cons.mpr ⟨List.mem_cons_of_mem _ (List.mem_append_left _ (List.mem_append_left _ (List.mem_append_left _ (List.mem_of_getElem? (i := 5) rfl)))), List.forall_mem_append.mpr ⟨List.forall_mem_cons.mpr ⟨List.mem_cons_of_mem _ (List.mem_append_left _ (List.mem_append_left _ (List.mem_append_left _ (List.mem_of_getElem? (i := 6) rfl)))), (fun _ h => absurd h List.not_mem_nil)⟩, (fun _ h => List.mem_cons_of_mem _ (List.mem_append_right _ h))⟩⟩⟩) (by decide +kernel)
set_option maxRecDepth 20000 in
theorem gm_X11_is_e_X10_hasKind_80 : GoodIn wm_X11_is_e (wsV RX11 80 RX10 yX10_hasKind wm_X10_hasKind) := goodIn_w (List.forall_mem_append.mpr ⟨List.forall_mem_cons.mpr ⟨List.mem_cons_of_mem _ (List.mem_append_left _ (List.mem_append_left _ (List.mem_append_left _ (List.mem_of_getElem? (i := 7) rfl)))), List.forall_mem_cons.mpr ⟨List.mem_cons_of_mem _ (List.mem_append_left _ (List.mem_append_left _ (List.mem_append_left _ (List.mem_of_getElem? (i := 8) rfl)))), List.forall_mem_cons.mpr ⟨List.mem_cons_of_mem _ (List.mem_append_left _ (List.mem_append_left _ (List.mem_append_left _ (List.mem_of_getElem? (i := 9) rfl)))), List.forall_mem_cons.mpr ⟨List.mem_cons_of_mem _ (List.mem_append_left _ (List.mem_append_left _ (List.mem_append_left _ (List.mem_of_getElem? (i := 4) rfl)))), (fun _ h => absurd h List.not_mem_nil)⟩⟩⟩⟩, List.forall_mem_cons.mpr ⟨List.mem_cons_of_mem _ (List.mem_append_left _ (List.mem_append_left _ (List.mem_append_left _ (List.mem_of_getElem? (i := 10) rfl)))), List.forall_mem_append.mpr ⟨List.forall_mem_cons.mpr ⟨List.mem_cons_of_mem _ (List.mem_append_left _ (List.mem_append_left _ (List.mem_append_left _ (List.mem_of_getElem? (i := 11) rfl)))), (fun _ h => absurd h List.not_mem_nil)⟩, (fun _ h => List.mem_cons_of_mem _ (List.mem_append_right _ h))⟩⟩⟩) (by decide +kernel)
set_option maxRecDepth 20000 in
theorem gm_X11_is_e_X10_kindIs_e_115 : GoodIn wm_X11_is_e (wsV RX11 115 RX10 yX10_kindIs wm_X10_kindIs_e) := goodIn_w (List.forall_mem_append.mpr ⟨List.forall_mem_cons.mpr ⟨List.mem_cons_of_mem _ (List.mem_append_left _ (List.mem_append_left _ (List.mem_append_left _ (List.mem_of_getElem? (i := 13) rfl)))), List.forall_mem_cons.mpr ⟨List.mem_cons_of_mem _ (List.mem_append_left _ (List.mem_append_left _ (List.mem_append_left _ (List.mem_of_getElem? (i := 14) rfl)))), List.forall_mem_cons.mpr ⟨List.mem_cons_of_mem _ (List.mem_append_left _ (List.mem_append_left _ (List.mem_append_left _ (List.mem_of_getElem? (i := 15) rfl)))), List.forall_mem_cons.mpr ⟨List.mem_cons_of_mem _ (List.mem_append_left _ (List.mem_append_left _ (List.mem_append_left _ (List.mem_of_getElem? (i := 4) rfl)))), (fun _ h => absurd h List.not_mem_nil)⟩⟩⟩⟩, List.forall_mem_cons.mpr ⟨List.mem_cons_of_mem _ (List.mem_append_left _ (List.mem_append_left _ (List.mem_append_right _ (List.mem_of_getElem? (i := 0) rfl)))), List.forall_mem_append.mpr ⟨List.forall_mem_cons.mpr ⟨List.mem_cons_of_mem _ (List.mem_append_left _ (List.mem_append_left _ (List.mem_append_right _ (List.mem_of_getElem? (i := 1) rfl)))), (fun _ h => absurd h List.not_mem_nil)⟩, (fun _ h => List.mem_cons_of_mem _ (List.mem_append_right _ h))⟩⟩⟩) (by decide +kernel)
set_option maxRecDepth 20000 in
theorem gm_X11_is_e_X11_oneIf_118 : GoodIn wm_X11_is_e (va_wsS RX11 118 yX11_oneIf wm_X11_oneIf) := goodIn_w (List.forall_mem_append.mpr ⟨List.forall_mem_cons.mpr ⟨List.mem_cons_of_mem _ (List.mem_append_left _ (List.mem_append_left _ (List.mem_append_right _ (List.mem_of_getElem? (i := 2) rfl)))), List.forall_mem_cons.mpr ⟨List.mem_cons_of_mem _ (List.mem_append_left _ (List.mem_append_left _ (List.mem_append_right _ (List.mem_of_getElem? (i := 3) rfl)))), List.forall_mem_cons.mpr ⟨List.mem_cons_of_mem _ (List.mem_append_left _ (List.mem_append_left _ (List.mem_append_right _ (List.mem_of_getElem? (i := 4) rfl)))), (fun _ h => absurd h List.not_mem_nil)⟩⟩⟩, List.forall_mem_cons.mpr ⟨List.mem_cons_of_mem _ (List.mem_append_left _ (List.mem_append_left _ (List.mem_append_right _ (List.mem_of_getElem? (i := 5) rfl)))), (fun _ h => absurd h List.not_mem_nil)⟩⟩) (by decide +kernel)
set_option maxHeartbeats 4000000 in
set_option maxRecDepth 100000 in
theorem x_X11_is_e (l : Launch) (D : va_G) (sz : Nat) (sk : Value) (a : Nat → Nat) (t : Nat → ClassId) (i : Nat → Int32) (q : Int64) (c : Nat → Nat → Int32) (d : Nat → Nat → Int64) (w : Int32) (k1 : Int32) (hI : xInv i c) (hs_D : PD (c 105)) : Met l yX11_is wm_X11_is_e ({ frames := 1, cells := 0, slots := 0, locals := 24 }) (va_Pc [.ref (a 100), .int w, .int k1] (yA (a 186) D sz (xwT sk a t i q c d) (xtT t))) (va_Qi (fun (r : Int32) (_ : Unit) => (True ∧ (IsR (c 105) (c 108) w k1 (i 111).toInt (i 110).toInt r))) oA (ro sz)) 0 0 (ro sz) := by
  refine Met.ofW (cc := cX11_is) (maxL := 3) (ret := (some .int)) (by decide +kernel) rfl ?_
  intro p e s m args below meth cd s₁ B hml hv
  obtain ⟨rfl, ⟨hsz, hP, hK⟩, hN, hZ⟩ := hv
  have hx := B.exec
  have hb := B.bytes
  have hr := B.returns
  have hts := atoms_spec (ws := wm_X11_is_e) B.pre
  have hown : s.vm.findClass RX11 = some m.cls := findClass_of_methodNamed B.named
  have hlocks := B.notSynchronized
  subst hsz
  have hA : ∀ q : Nat, s.heap.size ≤ q → ro s.heap.size q := fun _ h => h
  have hS : va_S (ro s.heap.size) s.heap s.heap [] := va_S.rf
  have hl := lv_entry ([.ref (a 100), .int w, .int k1]) (n := 3) (Nat.le_of_ble_eq_true rfl)
  rw [lg_entry_eq]
  generalize (lg_sl ([.ref (a 100), .int w, .int k1]) ++ List.replicate (3 - (lg_sl ([.ref (a 100), .int w, .int k1])).length) Slot.unset).toArray = ls at hl ⊢
  have hl : lv_has ls 3 [(0, .ref (a 100)), (1, .int w), (2, .int k1)] := hl
  have rb110_i : 6 ≤ (i 110).toInt ∧ (i 110).toInt ≤ 24 := hI.1 110
  have rb111_i : 0 ≤ (i 111).toInt ∧ (i 111).toInt ≤ 30 := hI.1 111
  refine lv_aload_n hx hb dX11_is_0 rfl (lv_at hl 0 rfl) ?_
  refine xgT_X_world hx hb hts (fun _ h => List.mem_cons_of_mem _ (List.mem_append_left _ (List.mem_append_right _ h))) hown hK hP (hts (.fieldLink RX11 10 "TalePlay" "world" "LTalePlay$World;") (List.mem_cons_of_mem _ (List.mem_append_left _ (List.mem_append_left _ (List.mem_append_left _ (List.mem_of_getElem? (i := 0) rfl)))))) dX11_is_1 ?_
  refine lv_iload_n hx hb dX11_is_4 rfl (lv_at hl 1 rfl) ?_
  refine ro_calli (va_runV (As := [.int w]) (rest := []) ⟨hx, hb, hml, hown, hts⟩ (x_X10_hasObject l D s.heap.size .null a t i q c d w hI ) (cwV 1 hts gm_X11_is_e_X10_hasObject_109 rfl rfl rfl (by decide +kernel) ⟨Nat.le_of_ble_eq_true rfl, Nat.le_of_ble_eq_true rfl⟩) (yA_V hN (xZ_k hZ hS hA) (xkT_W hK) (xuT_W (sk := sk) hP) (ci := 10) (q0 := 0) rfl rfl) rfl rfl hl.1 rfl (lv_room (Nat.le_of_ble_eq_true rfl)) dX11_is_5 ⟨Nat.le_of_ble_eq_true rfl, Nat.le_of_ble_eq_true rfl⟩) hS hA hP (fun r1 u1 H locs hw1 hP hS => ?_)
  have hw1 : r1 = if (0 ≤ w.toInt ∧ w.toInt < (i 111).toInt) then 1 else 0 := hw1
  refine lv_if_eq (tgt := 22) hx hb dX11_is_8 (by decide +kernel) (fun c2 => ?_) (fun c2 => ?_)
  · have f2 := fl_f hw1 c2
    refine lv_iconst (v := (-1)) hx hb dX11_is_22 (by decide +kernel) ?_
    exact ro_iret hx hb hr hlocks hS dX11_is_23 ⟨trivial, (show IsR (c 105) (c 108) w k1 (i 111).toInt (i 110).toInt ((-1) : Int32) from Or.inl ⟨by omega, by decide⟩)⟩
  · have f2 := fl_t hw1 c2
    refine lv_aload_n hx hb dX11_is_11 rfl (lv_at hl 0 rfl) ?_
    refine xgT_X_world hx hb hts (fun _ h => List.mem_cons_of_mem _ (List.mem_append_left _ (List.mem_append_right _ h))) hown hK hP (hts (.fieldLink RX11 10 "TalePlay" "world" "LTalePlay$World;") (List.mem_cons_of_mem _ (List.mem_append_left _ (List.mem_append_left _ (List.mem_append_left _ (List.mem_of_getElem? (i := 0) rfl)))))) dX11_is_12 ?_
    refine lv_iload_n hx hb dX11_is_15 rfl (lv_at hl 2 rfl) ?_
    refine ro_calli (va_runV (As := [.int k1]) (rest := []) ⟨hx, hb, hml, hown, hts⟩ (x_X10_hasKind l D H.size .null a t i q c d k1 hI ) (cwV 1 hts gm_X11_is_e_X10_hasKind_80 rfl rfl rfl (by decide +kernel) ⟨Nat.le_of_ble_eq_true rfl, Nat.le_of_ble_eq_true rfl⟩) (yA_V hN (xZ_k hZ hS hA) (xkT_W hK) (xuT_W (sk := sk) hP) (ci := 10) (q0 := 0) rfl rfl) rfl rfl hl.1 rfl (lv_room (Nat.le_of_ble_eq_true rfl)) dX11_is_16 ⟨Nat.le_of_ble_eq_true rfl, Nat.le_of_ble_eq_true rfl⟩) hS hA hP (fun r3 u3 H locs hw3 hP hS => ?_)
    have hw3 : r3 = if (0 ≤ k1.toInt ∧ k1.toInt < (i 110).toInt) then 1 else 0 := hw3
    refine lv_if_ne (tgt := 24) hx hb dX11_is_19 (by decide +kernel) (fun c4 => ?_) (fun c4 => ?_)
    · have f4 := fl_t hw3 c4
      refine lv_aload_n hx hb dX11_is_24 rfl (lv_at hl 0 rfl) ?_
      refine xgT_X_world hx hb hts (fun _ h => List.mem_cons_of_mem _ (List.mem_append_left _ (List.mem_append_right _ h))) hown hK hP (hts (.fieldLink RX11 10 "TalePlay" "world" "LTalePlay$World;") (List.mem_cons_of_mem _ (List.mem_append_left _ (List.mem_append_left _ (List.mem_append_left _ (List.mem_of_getElem? (i := 0) rfl)))))) dX11_is_25 ?_
      refine lv_aload_n hx hb dX11_is_28 rfl (lv_at hl 0 rfl) ?_
      refine xgT_X_world hx hb hts (fun _ h => List.mem_cons_of_mem _ (List.mem_append_left _ (List.mem_append_right _ h))) hown hK hP (hts (.fieldLink RX11 10 "TalePlay" "world" "LTalePlay$World;") (List.mem_cons_of_mem _ (List.mem_append_left _ (List.mem_append_left _ (List.mem_append_left _ (List.mem_of_getElem? (i := 0) rfl)))))) dX11_is_29 ?_
      refine xgT_W_kindOf hx hb hts (fun _ h => List.mem_cons_of_mem _ (List.mem_append_right _ h)) hown hK hP (hts (.fieldLink RX11 112 "TalePlay$World" "kindOf" "[I") (List.mem_cons_of_mem _ (List.mem_append_left _ (List.mem_append_left _ (List.mem_append_left _ (List.mem_of_getElem? (i := 12) rfl)))))) dX11_is_32 ?_
      refine lv_iload_n hx hb dX11_is_35 rfl (lv_at hl 1 rfl) ?_
      refine xlT_108 hx hb hK hP (vp_in_iff.mpr (by have h9 : w.toInt = w.toInt := rfl; omega)) dX11_is_36 (fun x5 ex5 => ?_)
      have rx5 : 0 ≤ x5.toInt ∧ x5.toInt ≤ 23 := by rw [ex5]; exact hI.2 108 _
      refine lv_iload_n hx hb dX11_is_37 rfl (lv_at hl 2 rfl) ?_
      refine ro_calli (va_runV (As := [.int x5, .int k1]) (rest := []) ⟨hx, hb, hml, hown, hts⟩ (x_X10_kindIs_e l D H.size .null a t i q c d x5 k1 hI (show 0 ≤ x5.toInt ∧ x5.toInt ≤ 23 from by omega) (show 0 ≤ k1.toInt from by omega) hs_D) (cwV 2 hts gm_X11_is_e_X10_kindIs_e_115 rfl rfl rfl (by decide +kernel) ⟨Nat.le_of_ble_eq_true rfl, Nat.le_of_ble_eq_true rfl⟩) (yA_V hN (xZ_k hZ hS hA) (xkT_W hK) (xuT_W (sk := sk) hP) (ci := 10) (q0 := 0) rfl rfl) rfl rfl hl.1 rfl (lv_room (Nat.le_of_ble_eq_true rfl)) dX11_is_38 ⟨Nat.le_of_ble_eq_true rfl, Nat.le_of_ble_eq_true rfl⟩) hS hA hP (fun r6 u6 H locs hw6 hP hS => ?_)
      have hw6 : ((0 ≤ r6.toInt ∧ r6.toInt ≤ 1) ∧ (Sm r6 (Ch (kF (c 105)) x5.toInt k1.toInt))) := hw6
      obtain ⟨hw6, hr6_0⟩ := hw6
      have hr6_0 : Sm r6 (Ch (kF (c 105)) x5.toInt k1.toInt) := hr6_0
      have hPc := hP.sub (ws' := []) [] rfl
      have hKc := hK.sub (tys' := []) [] rfl
      refine ro_calli (va_runS (As := [.int r6]) (rest := []) ⟨hx, hb, hml, hown, hts⟩ (c_X11_oneIf_e l D H.size r6) (va_cwS 1 hts gm_X11_is_e_X11_oneIf_118 rfl rfl rfl (by decide +kernel) ⟨Nat.le_of_ble_eq_true rfl, Nat.le_of_ble_eq_true rfl⟩) (pA_S hKc hPc) rfl rfl hl.1 rfl (lv_room (Nat.le_of_ble_eq_true rfl)) dX11_is_41 ⟨Nat.le_of_ble_eq_true rfl, Nat.le_of_ble_eq_true rfl⟩) hS hA hP (fun r8 u8 H locs hw8 hP hS => ?_)
      have hw8 : r8 = if (¬ r6.toInt = 0) then 1 else 0 := hw8
      exact ro_iret hx hb hr hlocks hS dX11_is_44 ⟨trivial, (show IsR (c 105) (c 108) w k1 (i 111).toInt (i 110).toInt r8 from Or.inr ⟨by omega, by have h9 := hr6_0; rw [ex5] at h9; exact sm_fl hw8 h9⟩)⟩
    · have f4 := fl_f hw3 c4
      refine lv_iconst (v := (-1)) hx hb dX11_is_22 (by decide +kernel) ?_
      exact ro_iret hx hb hr hlocks hS dX11_is_23 ⟨trivial, (show IsR (c 105) (c 108) w k1 (i 111).toInt (i 110).toInt ((-1) : Int32) from Or.inl ⟨by omega, by decide⟩)⟩

set_option maxHeartbeats 4000000 in
set_option maxRecDepth 100000 in
theorem s_X12_is_e (l : Launch) (D : va_G) (sz : Nat) (o : Nat) (a : Nat → Nat) (t : Nat → ClassId) (i : Nat → Int32) (q : Int64) (c : Nat → Nat → Int32) (d : Nat → Nat → Int64) (w : Int32) (k1 : Int32) (hI : mInv i c) : Met l yX12_is wm_X12_is ({ frames := 2, cells := 0, slots := 0, locals := 46 }) (va_Pc [.ref o, .int w, .int k1] (pA D sz (mW o a t i q c d) (mT t))) (va_Qi (fun (r : Int32) (_ : Unit) => (True ∧ (IsR (c 3) (c 6) w k1 (i 5).toInt (i 2).toInt r))) oA (ro sz)) 0 0 (ro sz) := by
  refine Met.ofW (cc := cX12_is) (maxL := 3) (ret := (some .int)) (by decide +kernel) rfl ?_
  intro p e s m args below meth cd s₁ B hml hv
  obtain ⟨rfl, hsz, hP, hK⟩ := hv
  have hx := B.exec
  have hb := B.bytes
  have hr := B.returns
  have hts := atoms_spec (ws := wm_X12_is) B.pre
  have hown : s.vm.findClass RX12 = some m.cls := findClass_of_methodNamed B.named
  have hlocks := B.notSynchronized
  subst hsz
  have hA : ∀ q : Nat, s.heap.size ≤ q → ro s.heap.size q := fun _ h => h
  have hS : va_S (ro s.heap.size) s.heap s.heap [] := va_S.rf
  have hl := lv_entry ([.ref o, .int w, .int k1]) (n := 3) (Nat.le_of_ble_eq_true rfl)
  rw [lg_entry_eq]
  generalize (lg_sl ([.ref o, .int w, .int k1]) ++ List.replicate (3 - (lg_sl ([.ref o, .int w, .int k1])).length) Slot.unset).toArray = ls at hl ⊢
  have hl : lv_has ls 3 [(0, .ref o), (1, .int w), (2, .int k1)] := hl
  have rb2_i : 6 ≤ (i 2).toInt ∧ (i 2).toInt ≤ 24 := hI.1 2
  have rb5_i : 0 ≤ (i 5).toInt ∧ (i 5).toInt ≤ 30 := hI.1 5
  refine lv_aload_n hx hb dX12_is_0 rfl (lv_at hl 0 rfl) ?_
  refine lv_iload_n hx hb dX12_is_1 rfl (lv_at hl 1 rfl) ?_
  refine ro_calli (va_runV (As := [.int w]) (rest := []) ⟨hx, hb, hml, hown, hts⟩ (s_X12_isObject l D s.heap.size o a t i q c d w hI ) (cwV 1 hts gm_X12_is_X12_isObject rfl rfl rfl (by decide +kernel) ⟨Nat.le_of_ble_eq_true rfl, Nat.le_of_ble_eq_true rfl⟩) (pA_V hK hP (ci := 12) (q0 := 0) rfl rfl) rfl rfl hl.1 rfl (lv_room (Nat.le_of_ble_eq_true rfl)) dX12_is_2 ⟨Nat.le_of_ble_eq_true rfl, Nat.le_of_ble_eq_true rfl⟩) hS hA hP (fun r1 u1 H locs hw1 hP hS => ?_)
  have hw1 : r1 = if (0 ≤ w.toInt ∧ w.toInt ≤ (i 5).toInt - 1) then 1 else 0 := hw1
  refine lv_if_eq (tgt := 24) hx hb dX12_is_5 (by decide +kernel) (fun c2 => ?_) (fun c2 => ?_)
  · have f2 := fl_f hw1 c2
    refine lv_iconst (v := (-1)) hx hb dX12_is_24 (by decide +kernel) ?_
    refine lv_goto (tgt := 42) hx hb dX12_is_25 (by decide +kernel) ?_
    exact ro_iret hx hb hr hlocks hS dX12_is_42 ⟨trivial, (show IsR (c 3) (c 6) w k1 (i 5).toInt (i 2).toInt ((-1) : Int32) from Or.inl ⟨by omega, by decide⟩)⟩
  · have f2 := fl_t hw1 c2
    refine lv_iload_n hx hb dX12_is_8 rfl (lv_at hl 2 rfl) ?_
    refine lv_i2l (v := k1.toInt64) hx hb dX12_is_9 rfl ?_
    refine lv_lconst (v := 0) hx hb dX12_is_10 (by decide +kernel) ?_
    refine lv_aload_n hx hb dX12_is_11 rfl (lv_at hl 0 rfl) ?_
    refine mget_2 (v := (i 2)) rfl hx hb hts (fun _ h => List.mem_cons_of_mem _ (List.mem_append_right _ h)) hown hK hP (hts (.fieldLink RX12 151 "TalePlayModel" "kinds" "I") (List.mem_cons_of_mem _ (List.mem_append_left _ (List.mem_of_getElem? (i := 9) rfl)))) dX12_is_12 ?_
    refine lv_iconst (v := 1) hx hb dX12_is_15 (by decide +kernel) ?_
    refine lv_isub hx hb dX12_is_16 ?_
    refine lv_topi (fun x3 ex3 => ?_)
    have tx3 := ti_sub (a := (i 2).toInt) (b := 1) ex3 rfl (by decide +kernel) (by omega) (by omega)
    refine lv_i2l (v := x3.toInt64) hx hb dX12_is_17 rfl ?_
    have hPc := hP.sub (ws' := []) [] rfl
    have hKc := hK.sub (tys' := []) [] rfl
    refine ro_calli (va_runS (As := [.long k1.toInt64, .long 0, .long x3.toInt64]) (rest := []) ⟨hx, hb, hml, hown, hts⟩ (c_X12_in l D H.size k1.toInt64 0 x3.toInt64 k1.toInt 0 ((i 2).toInt - 1) ((Int32.toInt_toInt64 k1).trans rfl) (by decide +kernel) ((Int32.toInt_toInt64 x3).trans tx3)) (va_cwS 3 hts gm_X12_is_X12_in rfl rfl rfl (by decide +kernel) ⟨Nat.le_of_ble_eq_true rfl, Nat.le_of_ble_eq_true rfl⟩) (pA_S hKc hPc) rfl rfl hl.1 rfl (lv_room (Nat.le_of_ble_eq_true rfl)) dX12_is_18 ⟨Nat.le_of_ble_eq_true rfl, Nat.le_of_ble_eq_true rfl⟩) hS hA hP (fun r4 u4 H locs hw4 hP hS => ?_)
    have hw4 : r4 = if (0 ≤ k1.toInt ∧ k1.toInt ≤ ((i 2).toInt - 1)) then 1 else 0 := hw4
    refine lv_if_ne (tgt := 28) hx hb dX12_is_21 (by decide +kernel) (fun c5 => ?_) (fun c5 => ?_)
    · have f5 := fl_t hw4 c5
      refine lv_aload_n hx hb dX12_is_28 rfl (lv_at hl 0 rfl) ?_
      refine lv_iload_n hx hb dX12_is_29 rfl (lv_at hl 1 rfl) ?_
      refine lv_iload_n hx hb dX12_is_30 rfl (lv_at hl 2 rfl) ?_
      refine ro_calli (va_runV (As := [.int w, .int k1]) (rest := []) ⟨hx, hb, hml, hown, hts⟩ (s_X12_isOf l D H.size o a t i q c d w k1 hI (show 0 ≤ w.toInt ∧ w.toInt ≤ 29 from by omega) (show 0 ≤ k1.toInt from by omega)) (cwV 2 hts gm_X12_is_X12_isOf rfl rfl rfl (by decide +kernel) ⟨Nat.le_of_ble_eq_true rfl, Nat.le_of_ble_eq_true rfl⟩) (pA_V hK hP (ci := 12) (q0 := 0) rfl rfl) rfl rfl hl.1 rfl (lv_room (Nat.le_of_ble_eq_true rfl)) dX12_is_31 ⟨Nat.le_of_ble_eq_true rfl, Nat.le_of_ble_eq_true rfl⟩) hS hA hP (fun r6 u6 H locs hw6 hP hS => ?_)
      have hw6 : ((0 ≤ r6.toInt ∧ r6.toInt ≤ 1) ∧ (Sm r6 (Kd (c 3) (c 6) w.toInt k1.toInt))) := hw6
      obtain ⟨hw6, hr6_0⟩ := hw6
      have hr6_0 : Sm r6 (Kd (c 3) (c 6) w.toInt k1.toInt) := hr6_0
      refine lv_if_eq (tgt := 41) hx hb dX12_is_34 (by decide +kernel) (fun c7 => ?_) (fun c7 => ?_)
      · have f7 := (ti_eq (a := r6.toInt) (b := 0) rfl (by decide +kernel)).mp c7
        have s7 := sm_f hr6_0 c7
        refine lv_iconst (v := 0) hx hb dX12_is_41 (by decide +kernel) ?_
        exact ro_iret hx hb hr hlocks hS dX12_is_42 ⟨trivial, (show IsR (c 3) (c 6) w k1 (i 5).toInt (i 2).toInt (0 : Int32) from Or.inr ⟨by omega, sm_0 s7⟩)⟩
      · have f7 := mt (ti_eq (a := r6.toInt) (b := 0) rfl (by decide +kernel)).mpr c7
        have s7 := sm_t hr6_0 c7
        refine lv_iconst (v := 1) hx hb dX12_is_37 (by decide +kernel) ?_
        refine lv_goto (tgt := 42) hx hb dX12_is_38 (by decide +kernel) ?_
        exact ro_iret hx hb hr hlocks hS dX12_is_42 ⟨trivial, (show IsR (c 3) (c 6) w k1 (i 5).toInt (i 2).toInt (1 : Int32) from Or.inr ⟨by omega, sm_1 s7⟩)⟩
    · have f5 := fl_f hw4 c5
      refine lv_iconst (v := (-1)) hx hb dX12_is_24 (by decide +kernel) ?_
      refine lv_goto (tgt := 42) hx hb dX12_is_25 (by decide +kernel) ?_
      exact ro_iret hx hb hr hlocks hS dX12_is_42 ⟨trivial, (show IsR (c 3) (c 6) w k1 (i 5).toInt (i 2).toInt ((-1) : Int32) from Or.inl ⟨by omega, by decide⟩)⟩

/-! roads: what is drawn -/
def zX (so ko : Nat → Int32) (N x : Int) : Int := if 0 ≤ x ∧ x < N then (so (ko x.toNat).toNatClampNeg).toInt else -9
theorem SO_z {so ko : Nat → Int32} {N w r : Int} (h : SO so ko N w r) : r = zX so ko N w := by
  unfold zX
  rcases h with ⟨a, b, d⟩ | ⟨a, b⟩
  · rw [if_pos ⟨a, b⟩]; exact d
  · rw [if_neg a]; exact b
def Ek (F A C S : Nat → Int32) (k : Int) (s : Nat) : Prop := (S s).toInt = 1 ∧ (F s).toInt = 5 ∧ (A s).toInt * 10 + (C s).toInt = k
def Er (Z : Int → Int) (F A B C S : Nat → Int32) (k : Int) (s : Nat) : Prop := Ek F A C S k s ∧ Z (B s).toInt = 0
def Ed (Z : Int → Int) (F A B C S : Nat → Int32) (k : Int) (s : Nat) : Prop := Ek F A C S k s ∧ ¬ Z (B s).toInt = 0
def Dt (Z : Int → Int) (F B S : Nat → Int32) (t : Int) (s : Nat) : Prop := (S s).toInt = 1 ∧ (F s).toInt = 5 ∧ ¬ Z (B s).toInt = 0 ∧ (B s).toInt = t
def Iq (Z : Int → Int) (F B C S : Nat → Int32) (k : Int) (s : Nat) : Prop := (S s).toInt = 1 ∧ (F s).toInt = 5 ∧ Z (B s).toInt = 0 ∧ (B s).toInt * 10 + opp (C s).toInt = k
def vI (B : Nat → Int32) (r : Int) : Int := if r = -9 then -9 else (B r.toNat).toInt
theorem vI_n {B : Nat → Int32} : vI B (-9) = -9 := if_pos rfl
theorem vI_y {B : Nat → Int32} {s : Nat} : vI B (s : Int) = (B s).toInt := by unfold vI; rw [if_neg (by omega), show ((s : Int)).toNat = s by omega]
def DA (Z : Int → Int) (F A B C S : Nat → Int32) (x : Nat) (bw ld dr : Nat → Int32) (k : Nat) : Prop := lst (Ek F A C S k) x (bw k).toInt ∧ (∃ r, lst (Er Z F A B C S k) x r ∧ (ld k).toInt = vI B r) ∧ ∃ r, lst (Ed Z F A B C S k) x r ∧ (dr k).toInt = vI B r
def DB (Z : Int → Int) (F A B S : Nat → Int32) (x : Nat) (f1 f2 : Nat → Int32) (t : Nat) : Prop := ∃ r1 r2, fst (Dt Z F B S t) x r1 ∧ lst (Dt Z F B S t) x r2 ∧ (f1 t).toInt = vI A r1 ∧ (f2 t).toInt = if r1 = r2 then -9 else vI A r2
def D1 (Z : Int → Int) (F A B C S : Nat → Int32) (x : Nat) (bw ld dr f1 f2 : Nat → Int32) : Prop := (∀ k : Nat, k < 300 → DA Z F A B C S x bw ld dr k) ∧ ∀ t : Nat, t < 30 → DB Z F A B S x f1 f2 t
theorem lsN {P : Nat → Prop} {x : Nat} {r : Int} (h : lst P x r) (hp : ¬ P x) : lst P (x + 1) r := by
  rcases h with ⟨h, a⟩ | ⟨s, h, a, b, d⟩
  · refine Or.inl ⟨h, fun s hs => ?_⟩
    by_cases e : s = x
    · rw [e]; exact hp
    · exact a s (by omega)
  · refine Or.inr ⟨s, h, by omega, b, fun s2 h2 h3 => ?_⟩
    by_cases e : s2 = x
    · rw [e]; exact hp
    · exact d s2 h2 (by omega)
theorem lsY {P : Nat → Prop} {x : Nat} (hp : P x) : lst P (x + 1) (x : Int) := Or.inr ⟨x, rfl, by omega, hp, fun s2 h2 h3 => by omega⟩
theorem fsN {P : Nat → Prop} {x : Nat} {r : Int} (h : fst P x r) (hp : ¬ P x ∨ ¬ r = -9) : fst P (x + 1) r := by
  rcases h with ⟨h, a⟩ | ⟨s, h, a, b, d⟩
  · refine Or.inl ⟨h, fun s hs => ?_⟩
    by_cases e : s = x
    · rw [e]; exact hp.resolve_right (fun q => q h)
    · exact a s (by omega)
  · exact Or.inr ⟨s, h, by omega, b, d⟩
theorem fsY {P : Nat → Prop} {x : Nat} {r : Int} (h : fst P x r) (hr : r = -9) (hp : P x) : fst P (x + 1) (x : Int) := by
  rcases h with ⟨h, a⟩ | ⟨s, h, a, b, d⟩
  · exact Or.inr ⟨x, rfl, by omega, hp, a⟩
  · omega
theorem ls0 {P : Nat → Prop} : lst P 0 (-9) := Or.inl ⟨rfl, fun s hs => absurd hs (Nat.not_lt_zero s)⟩
theorem fs0 {P : Nat → Prop} : fst P 0 (-9) := Or.inl ⟨rfl, fun s hs => absurd hs (Nat.not_lt_zero s)⟩
def WpD (bw ld dr f1 f2 : Nat → Int32) : Prop := ∀ k, (bw k).toInt = -9 ∧ (ld k).toInt = -9 ∧ (dr k).toInt = -9 ∧ (f1 k).toInt = -9 ∧ (f2 k).toInt = -9
theorem D1_0 {Z : Int → Int} {F A B C S bw ld dr f1 f2 : Nat → Int32} {x : Int32} (hx : x.toInt = 0) (h : WpD bw ld dr f1 f2) : D1 Z F A B C S x.toInt.toNat bw ld dr f1 f2 := by
  rw [hx]
  refine ⟨fun k _ => ⟨by rw [(h k).1]; exact ls0, ⟨-9, ls0, by rw [(h k).2.1, vI_n]⟩, ⟨-9, ls0, by rw [(h k).2.2.1, vI_n]⟩⟩, fun t _ => ⟨-9, -9, fs0, ls0, by rw [(h t).2.2.2.1, vI_n], by rw [(h t).2.2.2.2, if_pos rfl]⟩⟩
theorem DA_n {Z : Int → Int} {F A B C S bw ld dr : Nat → Int32} {x k : Nat} (h : DA Z F A B C S x bw ld dr k) (hp : ¬ Ek F A C S k x) : DA Z F A B C S (x + 1) bw ld dr k := by
  obtain ⟨h1, ⟨r, h2, h3⟩, ⟨q, h4, h5⟩⟩ := h
  exact ⟨lsN h1 hp, ⟨r, lsN h2 (fun z => hp z.1), h3⟩, ⟨q, lsN h4 (fun z => hp z.1), h5⟩⟩
theorem DB_n {Z : Int → Int} {F A B S f1 f2 : Nat → Int32} {x t : Nat} (h : DB Z F A B S x f1 f2 t) (hp : ¬ Dt Z F B S t x) : DB Z F A B S (x + 1) f1 f2 t := by
  obtain ⟨r1, r2, h1, h2, h3, h4⟩ := h
  exact ⟨r1, r2, fsN h1 (Or.inl hp), lsN h2 hp, h3, h4⟩
theorem D1_n {Z : Int → Int} {F A B C S bw ld dr f1 f2 : Nat → Int32} {x y : Int32} (h : D1 Z F A B C S x.toInt.toNat bw ld dr f1 f2) (hx : 0 ≤ x.toInt) (hp : ¬ ((S x.toNatClampNeg).toInt = 1 ∧ (F x.toNatClampNeg).toInt = 5)) (hy : y.toInt = x.toInt + 1) : D1 Z F A B C S y.toInt.toNat bw ld dr f1 f2 := by
  rw [show y.toInt.toNat = x.toInt.toNat + 1 by omega]
  exact ⟨fun k hk => DA_n (h.1 k hk) (fun q => hp ⟨q.1, q.2.1⟩), fun t ht => DB_n (h.2 t ht) (fun q => hp ⟨q.1, q.2.1⟩)⟩
/-- what drawTarget does -/
def TgR (Z : Int → Int) (ld dr f1 f2 ld' dr' f1' f2' : Nat → Int32) (k w t : Int32) : Prop :=
  (Z t.toInt = 0 ∧ ld' = upd ld k.toNatClampNeg t ∧ dr' = dr ∧ f1' = f1 ∧ f2' = f2) ∨ (¬ Z t.toInt = 0 ∧ ld' = ld ∧ dr' = upd dr k.toNatClampNeg t ∧ (((f1 t.toNatClampNeg).toInt = -9 ∧ f1' = upd f1 t.toNatClampNeg w ∧ f2' = f2) ∨ (¬ (f1 t.toNatClampNeg).toInt = -9 ∧ f1' = f1 ∧ f2' = upd f2 t.toNatClampNeg w)))
theorem D1_g {Z : Int → Int} {F A B C S bw ld dr f1 f2 ld' dr' f1' f2' : Nat → Int32} {x y k w t : Int32} (h : D1 Z F A B C S x.toInt.toNat bw ld dr f1 f2) (hx : 0 ≤ x.toInt) (hS : (S x.toNatClampNeg).toInt = 1) (hF : (F x.toNatClampNeg).toInt = 5) (hk : k.toInt = (A x.toNatClampNeg).toInt * 10 + (C x.toNatClampNeg).toInt) (hk0 : 0 ≤ k.toInt) (hw : w = A x.toNatClampNeg) (ht : t = B x.toNatClampNeg) (ht0 : 0 ≤ t.toInt) (hA : ∀ s, 0 ≤ (A s).toInt) (hT : TgR Z ld dr f1 f2 ld' dr' f1' f2' k w t) (hy : y.toInt = x.toInt + 1) : D1 Z F A B C S y.toInt.toNat (upd bw k.toNatClampNeg x) ld' dr' f1' f2' := by
  rw [show y.toInt.toNat = x.toInt.toNat + 1 by omega]
  have ex : x.toNatClampNeg = x.toInt.toNat := rfl
  have ek : k.toNatClampNeg = k.toInt.toNat := rfl
  have et : t.toNatClampNeg = t.toInt.toNat := rfl
  rw [ex] at hS hF hk hw ht
  have xc : ((x.toInt.toNat : Nat) : Int) = x.toInt := by omega
  have tB : (B x.toInt.toNat).toInt = t.toInt := by rw [ht]
  have wA : (A x.toInt.toNat).toInt = w.toInt := by rw [hw]
  refine ⟨fun j hj => ?_, fun j hj => ?_⟩
  · by_cases q : j = k.toNatClampNeg
    · have P : Ek F A C S j x.toInt.toNat := ⟨hS, hF, by omega⟩
      obtain ⟨h1, ⟨r, h2, h3⟩, ⟨z, h4, h5⟩⟩ := h.1 j hj
      have b1 : lst (Ek F A C S j) (x.toInt.toNat + 1) (upd bw k.toNatClampNeg x j).toInt := by
        rw [q, pk_us, ← q, ← xc]; exact lsY P
      rcases hT with ⟨a, e1, e2, e3, e4⟩ | ⟨a, e1, e2, e3⟩
      · refine ⟨b1, ⟨((x.toInt.toNat : Nat) : Int), lsY ⟨P, by rw [tB]; exact a⟩, by rw [e1, q, pk_us, vI_y, tB]⟩, ⟨z, lsN h4 (fun y => y.2 (by rw [tB]; exact a)), by rw [e2]; exact h5⟩⟩
      · refine ⟨b1, ⟨r, lsN h2 (fun y => a (by rw [← tB]; exact y.2)), by rw [e1]; exact h3⟩, ⟨((x.toInt.toNat : Nat) : Int), lsY ⟨P, by rw [tB]; exact a⟩, by rw [e2, q, pk_us, vI_y, tB]⟩⟩
    · have nP : ¬ Ek F A C S j x.toInt.toNat := fun y => q (by have := y.2.2; omega)
      have g := DA_n (h.1 j hj) nP
      obtain ⟨h1, h2, h3⟩ := g
      refine ⟨by rw [pk_un q]; exact h1, ?_, ?_⟩
      · rcases hT with ⟨a, e1, e2, e3, e4⟩ | ⟨a, e1, e2, e3⟩
        · rw [e1, pk_un q]; exact h2
        · rw [e1]; exact h2
      · rcases hT with ⟨a, e1, e2, e3, e4⟩ | ⟨a, e1, e2, e3⟩
        · rw [e2]; exact h3
        · rw [e2, pk_un q]; exact h3
  · rcases hT with ⟨a, e1, e2, e3, e4⟩ | ⟨a, e1, e2, e3⟩
    · rw [e3, e4]
      exact DB_n (h.2 j hj) (fun y => y.2.2.1 (by rw [tB]; exact a))
    · by_cases q : j = t.toNatClampNeg
      · have P : Dt Z F B S j x.toInt.toNat := ⟨hS, hF, by rw [tB]; exact a, by rw [tB]; omega⟩
        obtain ⟨r1, r2, h1, h2, h3, h4⟩ := h.2 j hj
        rcases e3 with ⟨c, e3, e4⟩ | ⟨c, e3, e4⟩
        · have r9 : r1 = -9 := by
            rw [← q, h3] at c
            rcases h1 with y | ⟨s, y, _⟩
            · exact y.1
            · rw [y, vI_y] at c; have := hA s; omega
          have r8 : r2 = -9 := by
            rcases h2 with y | ⟨s, y, y2, y3, _⟩
            · exact y.1
            · rcases h1 with v | ⟨s', v, _⟩
              · exact absurd y3 (v.2 s y2)
              · omega
          refine ⟨((x.toInt.toNat : Nat) : Int), ((x.toInt.toNat : Nat) : Int), fsY h1 r9 P, lsY P, by rw [e3, q, pk_us, vI_y, wA], ?_⟩
          rw [e4, if_pos rfl, h4, if_pos (by omega)]
        · have r9 : ¬ r1 = -9 := fun y => by
            rw [← q, h3, y, vI_n] at c; exact c rfl
          refine ⟨r1, ((x.toInt.toNat : Nat) : Int), fsN h1 (Or.inr r9), lsY P, by rw [e3]; exact h3, ?_⟩
          have ne : ¬ r1 = ((x.toInt.toNat : Nat) : Int) := by
            rcases h1 with y | ⟨s, y, y2, _⟩
            · exact absurd y.1 r9
            · omega
          rw [e4, q, pk_us, if_neg ne, vI_y, wA]
      · have nP : ¬ Dt Z F B S j x.toInt.toNat := fun y => q (by have := y.2.2.2; omega)
        obtain ⟨r1, r2, h1, h2, h3, h4⟩ := DB_n (h.2 j hj) nP
        refine ⟨r1, r2, h1, h2, ?_, ?_⟩
        · rcases e3 with ⟨c, e3, e4⟩ | ⟨c, e3, e4⟩
          · rw [e3, pk_un q]; exact h3
          · rw [e3]; exact h3
        · rcases e3 with ⟨c, e3, e4⟩ | ⟨c, e3, e4⟩
          · rw [e4]; exact h4
          · rw [e4, pk_un q]; exact h4
/-- what is implied -/
def DI (Z : Int → Int) (F A B C S : Nat → Int32) (x : Nat) (b1 l1 bw ld im : Nat → Int32) (k : Nat) : Prop := ∃ q, fst (Iq Z F B C S k) x q ∧ ((¬ (b1 k).toInt = -9 ∧ bw k = b1 k ∧ ld k = l1 k ∧ (im k).toInt = 0) ∨ ((b1 k).toInt = -9 ∧ q = -9 ∧ (bw k).toInt = -9 ∧ ld k = l1 k ∧ (im k).toInt = 0) ∨ ((b1 k).toInt = -9 ∧ ¬ q = -9 ∧ (bw k).toInt = q ∧ (ld k).toInt = vI A q ∧ (im k).toInt = 1))
def D2 (Z : Int → Int) (F A B C S : Nat → Int32) (x : Nat) (b1 l1 bw ld im : Nat → Int32) : Prop := ∀ k : Nat, k < 300 → DI Z F A B C S x b1 l1 bw ld im k
theorem D2_0 {Z : Int → Int} {F A B C S b1 l1 im : Nat → Int32} {x : Int32} (hx : x.toInt = 0) (h : ∀ k, (im k).toInt = 0) : D2 Z F A B C S x.toInt.toNat b1 l1 b1 l1 im := by
  rw [hx]
  intro k _
  refine ⟨-9, fs0, ?_⟩
  by_cases q : (b1 k).toInt = -9
  · exact Or.inr (Or.inl ⟨q, rfl, q, rfl, h k⟩)
  · exact Or.inl ⟨q, rfl, rfl, h k⟩
theorem DI_n {Z : Int → Int} {F A B C S b1 l1 bw ld im : Nat → Int32} {x k : Nat} (h : DI Z F A B C S x b1 l1 bw ld im k) (hp : ¬ Iq Z F B C S k x) : DI Z F A B C S (x + 1) b1 l1 bw ld im k := by
  obtain ⟨q, h1, h2⟩ := h
  exact ⟨q, fsN h1 (Or.inl hp), h2⟩
theorem D2_n {Z : Int → Int} {F A B C S b1 l1 bw ld im : Nat → Int32} {x y : Int32} (h : D2 Z F A B C S x.toInt.toNat b1 l1 bw ld im) (hx : 0 ≤ x.toInt) (hp : ¬ ((S x.toNatClampNeg).toInt = 1 ∧ (F x.toNatClampNeg).toInt = 5 ∧ Z (B x.toNatClampNeg).toInt = 0)) (hy : y.toInt = x.toInt + 1) : D2 Z F A B C S y.toInt.toNat b1 l1 bw ld im := by
  rw [show y.toInt.toNat = x.toInt.toNat + 1 by omega]
  exact fun k hk => DI_n (h k hk) (fun q => hp ⟨q.1, q.2.1, q.2.2.1⟩)
theorem D2_k {Z : Int → Int} {F A B C S b1 l1 bw ld im : Nat → Int32} {x y k : Int32} (h : D2 Z F A B C S x.toInt.toNat b1 l1 bw ld im) (hx : 0 ≤ x.toInt) (hS : (S x.toNatClampNeg).toInt = 1) (hF : (F x.toNatClampNeg).toInt = 5) (hZ : Z (B x.toNatClampNeg).toInt = 0) (hk : k.toInt = (B x.toNatClampNeg).toInt * 10 + opp (C x.toNatClampNeg).toInt) (hb : ¬ (bw k.toNatClampNeg).toInt = -9) (hy : y.toInt = x.toInt + 1) : D2 Z F A B C S y.toInt.toNat b1 l1 bw ld im := by
  rw [show y.toInt.toNat = x.toInt.toNat + 1 by omega]
  have ek : k.toNatClampNeg = k.toInt.toNat := rfl
  intro j hj
  have g := h j hj
  by_cases q : j = k.toNatClampNeg
  · obtain ⟨z, h1, h2⟩ := g
    rw [← q] at hb
    rcases h2 with a | a | a
    · have P : fst (Iq Z F B C S j) x.toInt.toNat z := h1
      by_cases z9 : z = -9
      · by_cases p : Iq Z F B C S j x.toInt.toNat
        · exact ⟨_, fsY h1 z9 p, Or.inl a⟩
        · exact ⟨z, fsN h1 (Or.inl p), Or.inl a⟩
      · exact ⟨z, fsN h1 (Or.inr z9), Or.inl a⟩
    · exact absurd a.2.2.1 hb
    · exact ⟨z, fsN h1 (Or.inr a.2.1), Or.inr (Or.inr a)⟩
  · refine DI_n g (fun p => q ?_)
    have e := p.2.2.2
    have ex : x.toNatClampNeg = x.toInt.toNat := rfl
    rw [ex] at hk
    omega
theorem D2_s {Z : Int → Int} {F A B C S b1 l1 bw ld im : Nat → Int32} {x y k w : Int32} (h : D2 Z F A B C S x.toInt.toNat b1 l1 bw ld im) (hx : 0 ≤ x.toInt) (hS : (S x.toNatClampNeg).toInt = 1) (hF : (F x.toNatClampNeg).toInt = 5) (hZ : Z (B x.toNatClampNeg).toInt = 0) (hk : k.toInt = (B x.toNatClampNeg).toInt * 10 + opp (C x.toNatClampNeg).toInt) (hk0 : 0 ≤ k.toInt) (hb : (bw k.toNatClampNeg).toInt = -9) (hw : w = A x.toNatClampNeg) (hy : y.toInt = x.toInt + 1) : D2 Z F A B C S y.toInt.toNat b1 l1 (upd bw k.toNatClampNeg x) (upd ld k.toNatClampNeg w) (upd im k.toNatClampNeg 1) := by
  rw [show y.toInt.toNat = x.toInt.toNat + 1 by omega]
  have ek : k.toNatClampNeg = k.toInt.toNat := rfl
  have ex : x.toNatClampNeg = x.toInt.toNat := rfl
  rw [ex] at hS hF hZ hk hw
  intro j hj
  have g := h j hj
  by_cases q : j = k.toNatClampNeg
  · have P : Iq Z F B C S j x.toInt.toNat := ⟨hS, hF, hZ, by omega⟩
    obtain ⟨z, h1, h2⟩ := g
    rw [← q] at hb
    have z9 : (b1 j).toInt = -9 ∧ z = -9 := by
      rcases h2 with a | a | a
      · rw [a.2.1] at hb; exact absurd hb a.1
      · exact ⟨a.1, a.2.1⟩
      · have := a.2.2.1; omega
    refine ⟨_, fsY h1 z9.2 P, Or.inr (Or.inr ⟨z9.1, by omega, ?_, ?_, ?_⟩)⟩
    · rw [q, pk_us]; omega
    · rw [q, pk_us, vI_y, hw]
    · rw [q, pk_us]; decide
  · have g2 := DI_n g (fun p => q (by have e := p.2.2.2; omega))
    obtain ⟨z, h1, h2⟩ := g2
    exact ⟨z, h1, by rw [pk_un q, pk_un q, pk_un q]; exact h2⟩
/-- through doors -/
def thr (l0 dr f1 f2 : Nat → Int32) (k : Nat) : Int := if (dr k).toInt = -9 then (l0 k).toInt else if (f1 (dr k).toNatClampNeg).toInt = (k : Int) / 10 then (f2 (dr k).toNatClampNeg).toInt else (f1 (dr k).toNatClampNeg).toInt
def D3 (x : Nat) (l0 dr f1 f2 ld : Nat → Int32) : Prop := ∀ k : Nat, k < 300 → (k < x → (ld k).toInt = thr l0 dr f1 f2 k) ∧ (¬ k < x → ld k = l0 k)
theorem D3_0 {l0 dr f1 f2 : Nat → Int32} {x : Int32} (hx : x.toInt = 0) : D3 x.toInt.toNat l0 dr f1 f2 l0 := by
  rw [hx]
  exact fun k _ => ⟨fun q => absurd q (Nat.not_lt_zero k), fun _ => rfl⟩
theorem D3_n {l0 dr f1 f2 ld : Nat → Int32} {x y : Int32} (h : D3 x.toInt.toNat l0 dr f1 f2 ld) (hx : 0 ≤ x.toInt ∧ x.toInt < 300) (hd : (dr x.toNatClampNeg).toInt = -9) (hy : y.toInt = x.toInt + 1) : D3 y.toInt.toNat l0 dr f1 f2 ld := by
  rw [show y.toInt.toNat = x.toInt.toNat + 1 by omega]
  have ex : x.toNatClampNeg = x.toInt.toNat := rfl
  rw [ex] at hd
  intro k hk
  refine ⟨fun q => ?_, fun q => (h k hk).2 (by omega)⟩
  by_cases z : k = x.toInt.toNat
  · subst z
    rw [(h _ hk).2 (by omega)]
    unfold thr
    rw [if_pos hd]
  · exact (h k hk).1 (by omega)
theorem D3_s {l0 dr f1 f2 ld : Nat → Int32} {x y v : Int32} (h : D3 x.toInt.toNat l0 dr f1 f2 ld) (hx : 0 ≤ x.toInt ∧ x.toInt < 300) (hv : v.toInt = thr l0 dr f1 f2 x.toNatClampNeg) (hy : y.toInt = x.toInt + 1) : D3 y.toInt.toNat l0 dr f1 f2 (upd ld x.toNatClampNeg v) := by
  rw [show y.toInt.toNat = x.toInt.toNat + 1 by omega]
  have ex : x.toNatClampNeg = x.toInt.toNat := rfl
  rw [ex] at hv ⊢
  intro k hk
  by_cases z : k = x.toInt.toNat
  · subst z
    rw [pk_us]
    exact ⟨fun _ => hv, fun q => by omega⟩
  · rw [pk_un z]
    exact ⟨fun q => (h k hk).1 (by omega), fun q => (h k hk).2 (by omega)⟩
theorem thr_f {l0 dr f1 f2 : Nat → Int32} {x d v : Int32} (ed : d = dr x.toNatClampNeg) (hd : ¬ d.toInt = -9) (h0 : 0 ≤ x.toInt) (h : ((f1 d.toNatClampNeg).toInt = x.toInt / 10 ∧ v.toInt = (f2 d.toNatClampNeg).toInt) ∨ (¬ (f1 d.toNatClampNeg).toInt = x.toInt / 10 ∧ v.toInt = (f1 d.toNatClampNeg).toInt)) : v.toInt = thr l0 dr f1 f2 x.toNatClampNeg := by
  have ex : ((x.toNatClampNeg : Nat) : Int) = x.toInt := cl_nn h0
  unfold thr
  rw [← ed, if_neg hd, ex]
  rcases h with ⟨a, b⟩ | ⟨a, b⟩
  · rw [if_pos a, b]
  · rw [if_neg a, b]
/-- all of it -/
def RDS (Z : Int → Int) (F A B C S : Nat → Int32) (n : Nat) (ld dr bw im f1 f2 : Nat → Int32) : Prop := ∃ b1 l1 l2 : Nat → Int32, D1 Z F A B C S n b1 l1 dr f1 f2 ∧ D2 Z F A B C S n b1 l1 bw l2 im ∧ D3 300 l2 dr f1 f2 ld
theorem xor1o {x r : Int32} (h : 0 ≤ x.toInt ∧ x.toInt ≤ 9) (e : r = x ^^^ 1) : r.toInt = opp x.toInt := by
  have q : x = 0 ∨ x = 1 ∨ x = 2 ∨ x = 3 ∨ x = 4 ∨ x = 5 ∨ x = 6 ∨ x = 7 ∨ x = 8 ∨ x = 9 := by
    have w : ∀ y : Int32, y.toInt = x.toInt → x = y := fun y z => (Int32.toInt_inj.mp z).symm
    rcases (show x.toInt = 0 ∨ x.toInt = 1 ∨ x.toInt = 2 ∨ x.toInt = 3 ∨ x.toInt = 4 ∨ x.toInt = 5 ∨ x.toInt = 6 ∨ x.toInt = 7 ∨ x.toInt = 8 ∨ x.toInt = 9 by omega) with q | q | q | q | q | q | q | q | q | q
    · exact Or.inl (w 0 (by rw [q]; decide))
    · exact Or.inr (Or.inl (w 1 (by rw [q]; decide)))
    · exact Or.inr (Or.inr (Or.inl (w 2 (by rw [q]; decide))))
    · exact Or.inr (Or.inr (Or.inr (Or.inl (w 3 (by rw [q]; decide)))))
    · exact Or.inr (Or.inr (Or.inr (Or.inr (Or.inl (w 4 (by rw [q]; decide))))))
    · exact Or.inr (Or.inr (Or.inr (Or.inr (Or.inr (Or.inl (w 5 (by rw [q]; decide)))))))
    · exact Or.inr (Or.inr (Or.inr (Or.inr (Or.inr (Or.inr (Or.inl (w 6 (by rw [q]; decide))))))))
    · exact Or.inr (Or.inr (Or.inr (Or.inr (Or.inr (Or.inr (Or.inr (Or.inl (w 7 (by rw [q]; decide)))))))))
    · exact Or.inr (Or.inr (Or.inr (Or.inr (Or.inr (Or.inr (Or.inr (Or.inr (Or.inl (w 8 (by rw [q]; decide))))))))))
    · exact Or.inr (Or.inr (Or.inr (Or.inr (Or.inr (Or.inr (Or.inr (Or.inr (Or.inr (w 9 (by rw [q]; decide))))))))))
  rw [e]
  rcases q with q | q | q | q | q | q | q | q | q | q <;> rw [q] <;> decide
theorem idiv10 {x r : Int32} (h : 0 ≤ x.toInt ∧ x.toInt ≤ 299) (e : r = x / 10) : r.toInt = x.toInt / 10 := by
  rw [e, Int32.toInt_div]
  rw [show (10 : Int32).toInt = 10 by decide, Int.tdiv_eq_ediv_of_nonneg h.1]
  exact Int.bmod_eq_of_le (by omega) (by omega)
/-- an exit, as the reference finds it -/
def FeM (pa ko F A B C S : Nat → Int32) (n r d ld dr bw im : Int) : Prop :=
  (¬ lsF (bP F A C S r d) n.toNat = -9 ∧ bw = lsF (bP F A C S r d) n.toNat ∧ im = 0 ∧ ((kS pa ko (B (lsF (bP F A C S r d) n.toNat).toNat).toInt = 2 ∧ dr = (B (lsF (bP F A C S r d) n.toNat).toNat).toInt ∧ ld = oS F A B S n (B (lsF (bP F A C S r d) n.toNat).toNat).toInt r) ∨ (¬ kS pa ko (B (lsF (bP F A C S r d) n.toNat).toNat).toInt = 2 ∧ dr = -9 ∧ ld = (B (lsF (bP F A C S r d) n.toNat).toNat).toInt)))
  ∨ (lsF (bP F A C S r d) n.toNat = -9 ∧ dr = -9 ∧ ((¬ fsF (qP F B C S r (opp d)) n.toNat = -9 ∧ bw = fsF (qP F B C S r (opp d)) n.toNat ∧ im = 1 ∧ ld = (A (fsF (qP F B C S r (opp d)) n.toNat).toNat).toInt) ∨ (fsF (qP F B C S r (opp d)) n.toNat = -9 ∧ bw = -9 ∧ im = 0 ∧ ld = -9)))
/-- what a sentence said does to the roads -/
def RdQ (Q : Prop) (Z : Int → Int) (F' A' B' C' S' ld dr bw im f1 f2 ld' dr' bw' im' f1' f2' : Nat → Int32) (n' f : Int) : Prop := (¬ (Q ∧ f = 5) ∧ ld' = ld ∧ dr' = dr ∧ bw' = bw ∧ im' = im ∧ f1' = f1 ∧ f2' = f2) ∨ (Q ∧ f = 5 ∧ RDS Z F' A' B' C' S' n'.toNat ld' dr' bw' im' f1' f2')
def Zr (a : Nat → Int32) : Prop := ∀ k, (a k).toInt = 0
def RdW (Z : Int → Int) (F A B C S ld dr bw im f1 f2 ld' dr' bw' im' f1' f2' : Nat → Int32) (n f : Int) : Prop := (¬ f = 5 ∧ ld' = ld ∧ dr' = dr ∧ bw' = bw ∧ im' = im ∧ f1' = f1 ∧ f2' = f2) ∨ (f = 5 ∧ RDS Z F A B C S n.toNat ld' dr' bw' im' f1' f2')

def wm_X5_isDrawn_e : List Cond := .code yX5_isDrawn cX5_isDrawn 2 (some .boolean) :: (([.fieldLink RX5 43 "TalePlay$Roads" "book" "LTalePlay$Book;", .fieldLink RX5 65 "TalePlay$Book" "said" "[Z", .fieldLink RX5 71 "TalePlay$Book" "forms" "[I"] : List Cond) ++ wsX50 ++ wsX10)
set_option maxHeartbeats 4000000 in
set_option maxRecDepth 100000 in
theorem x_X5_isDrawn_e (l : Launch) (D : va_G) (sz : Nat) (sk : Value) (a : Nat → Nat) (t : Nat → ClassId) (i : Nat → Int32) (q : Int64) (c : Nat → Nat → Int32) (d : Nat → Nat → Int64) (s1 : Int32) (hI : xInv i c) (hs1 : 0 ≤ s1.toInt ∧ s1.toInt ≤ 199) : Met l yX5_isDrawn wm_X5_isDrawn_e ({ frames := 0, cells := 0, slots := 0, locals := 0 }) (va_Pc [.ref (a 128), .int s1] (yA (a 186) D sz (xwB sk a t i q c d) (xtB t))) (va_Qi (fun (r : Int32) (_ : Unit) => ((0 ≤ r.toInt ∧ r.toInt ≤ 1) ∧ ((r.toInt = 1 ∧ (c 117 s1.toNatClampNeg).toInt = 1 ∧ (c 113 s1.toNatClampNeg).toInt = 5) ∨ (r.toInt = 0 ∧ ¬ ((c 117 s1.toNatClampNeg).toInt = 1 ∧ (c 113 s1.toNatClampNeg).toInt = 5))))) oA (ro sz)) 0 0 (ro sz) := by
  refine Met.ofW (cc := cX5_isDrawn) (maxL := 2) (ret := (some .boolean)) (by decide +kernel) rfl ?_
  intro p e s m args below meth cd s₁ B hml hv
  obtain ⟨rfl, ⟨hsz, hP, hK⟩, hN, hZ⟩ := hv
  have hx := B.exec
  have hb := B.bytes
  have hr := B.returns
  have hts := atoms_spec (ws := wm_X5_isDrawn_e) B.pre
  have hown : s.vm.findClass RX5 = some m.cls := findClass_of_methodNamed B.named
  have hlocks := B.notSynchronized
  subst hsz
  have hA : ∀ q : Nat, s.heap.size ≤ q → ro s.heap.size q := fun _ h => h
  have hS : va_S (ro s.heap.size) s.heap s.heap [] := va_S.rf
  have hl := lv_entry ([.ref (a 128), .int s1]) (n := 2) (Nat.le_of_ble_eq_true rfl)
  rw [lg_entry_eq]
  generalize (lg_sl ([.ref (a 128), .int s1]) ++ List.replicate (2 - (lg_sl ([.ref (a 128), .int s1])).length) Slot.unset).toArray = ls at hl ⊢
  have hl : lv_has ls 2 [(0, .ref (a 128)), (1, .int s1)] := hl
  refine lv_aload_n hx hb dX5_isDrawn_0 rfl (lv_at hl 0 rfl) ?_
  refine xgB_R_book hx hb hts (fun _ h => List.mem_cons_of_mem _ (List.mem_append_left _ (List.mem_append_right _ h))) hown hK hP (hts (.fieldLink RX5 43 "TalePlay$Roads" "book" "LTalePlay$Book;") (List.mem_cons_of_mem _ (List.mem_append_left _ (List.mem_append_left _ (List.mem_of_getElem? (i := 0) rfl))))) dX5_isDrawn_1 ?_
  refine xgB_B_said hx hb hts (fun _ h => List.mem_cons_of_mem _ (List.mem_append_right _ h)) hown hK hP (hts (.fieldLink RX5 65 "TalePlay$Book" "said" "[Z") (List.mem_cons_of_mem _ (List.mem_append_left _ (List.mem_append_left _ (List.mem_of_getElem? (i := 1) rfl))))) dX5_isDrawn_4 ?_
  refine lv_iload_n hx hb dX5_isDrawn_7 rfl (lv_at hl 1 rfl) ?_
  refine xlB_117 hx hb hK hP (vp_in_iff.mpr (by have h9 : s1.toInt = s1.toInt := rfl; omega)) dX5_isDrawn_8 (fun x1 ex1 => ?_)
  have rx1 : 0 ≤ x1.toInt ∧ x1.toInt ≤ 1 := by rw [ex1]; exact hI.2 117 _
  have gx1 : (c 117 (s1 : Int32).toNatClampNeg).toInt = x1.toInt := (congrArg Int32.toInt ex1).symm
  refine lv_if_eq (tgt := 29) hx hb dX5_isDrawn_9 (by decide +kernel) (fun c2 => ?_) (fun c2 => ?_)
  · have f2 := (ti_eq (a := x1.toInt) (b := 0) rfl (by decide +kernel)).mp c2
    refine lv_iconst (v := 0) hx hb dX5_isDrawn_29 (by decide +kernel) ?_
    exact ro_zret hx hb hr hlocks hS rfl dX5_isDrawn_30 ⟨(show 0 ≤ (0 : Int32).toInt ∧ (0 : Int32).toInt ≤ 1 from by have h9 : (0 : Int32).toInt = 0 := (by decide +kernel); omega), (show ((0 : Int32).toInt = 1 ∧ (c 117 s1.toNatClampNeg).toInt = 1 ∧ (c 113 s1.toNatClampNeg).toInt = 5) ∨ ((0 : Int32).toInt = 0 ∧ ¬ ((c 117 s1.toNatClampNeg).toInt = 1 ∧ (c 113 s1.toNatClampNeg).toInt = 5)) from Or.inr ⟨by decide, by omega⟩)⟩
  · have f2 := mt (ti_eq (a := x1.toInt) (b := 0) rfl (by decide +kernel)).mpr c2
    refine lv_aload_n hx hb dX5_isDrawn_12 rfl (lv_at hl 0 rfl) ?_
    refine xgB_R_book hx hb hts (fun _ h => List.mem_cons_of_mem _ (List.mem_append_left _ (List.mem_append_right _ h))) hown hK hP (hts (.fieldLink RX5 43 "TalePlay$Roads" "book" "LTalePlay$Book;") (List.mem_cons_of_mem _ (List.mem_append_left _ (List.mem_append_left _ (List.mem_of_getElem? (i := 0) rfl))))) dX5_isDrawn_13 ?_
    refine xgB_B_forms hx hb hts (fun _ h => List.mem_cons_of_mem _ (List.mem_append_right _ h)) hown hK hP (hts (.fieldLink RX5 71 "TalePlay$Book" "forms" "[I") (List.mem_cons_of_mem _ (List.mem_append_left _ (List.mem_append_left _ (List.mem_of_getElem? (i := 2) rfl))))) dX5_isDrawn_16 ?_
    refine lv_iload_n hx hb dX5_isDrawn_19 rfl (lv_at hl 1 rfl) ?_
    refine xlB_113 hx hb hK hP (vp_in_iff.mpr (by have h9 : s1.toInt = s1.toInt := rfl; omega)) dX5_isDrawn_20 (fun x3 ex3 => ?_)
    have rx3 : 0 ≤ x3.toInt ∧ x3.toInt ≤ 7 := by rw [ex3]; exact hI.2 113 _
    have gx3 : (c 113 (s1 : Int32).toNatClampNeg).toInt = x3.toInt := (congrArg Int32.toInt ex3).symm
    refine lv_iconst (v := 5) hx hb dX5_isDrawn_21 (by decide +kernel) ?_
    refine lv_icmp_ne (tgt := 29) hx hb dX5_isDrawn_22 (by decide +kernel) (fun c4 => ?_) (fun c4 => ?_)
    · have f4 := mt (ti_eq (a := x3.toInt) (b := 5) rfl (by decide +kernel)).mpr c4
      refine lv_iconst (v := 0) hx hb dX5_isDrawn_29 (by decide +kernel) ?_
      exact ro_zret hx hb hr hlocks hS rfl dX5_isDrawn_30 ⟨(show 0 ≤ (0 : Int32).toInt ∧ (0 : Int32).toInt ≤ 1 from by have h9 : (0 : Int32).toInt = 0 := (by decide +kernel); omega), (show ((0 : Int32).toInt = 1 ∧ (c 117 s1.toNatClampNeg).toInt = 1 ∧ (c 113 s1.toNatClampNeg).toInt = 5) ∨ ((0 : Int32).toInt = 0 ∧ ¬ ((c 117 s1.toNatClampNeg).toInt = 1 ∧ (c 113 s1.toNatClampNeg).toInt = 5)) from Or.inr ⟨by decide, by omega⟩)⟩
    · have f4 := (ti_eq (a := x3.toInt) (b := 5) rfl (by decide +kernel)).mp c4
      refine lv_iconst (v := 1) hx hb dX5_isDrawn_25 (by decide +kernel) ?_
      refine lv_goto (tgt := 30) hx hb dX5_isDrawn_26 (by decide +kernel) ?_
      exact ro_zret hx hb hr hlocks hS rfl dX5_isDrawn_30 ⟨(show 0 ≤ (1 : Int32).toInt ∧ (1 : Int32).toInt ≤ 1 from by have h9 : (1 : Int32).toInt = 1 := (by decide +kernel); omega), (show ((1 : Int32).toInt = 1 ∧ (c 117 s1.toNatClampNeg).toInt = 1 ∧ (c 113 s1.toNatClampNeg).toInt = 5) ∨ ((1 : Int32).toInt = 0 ∧ ¬ ((c 117 s1.toNatClampNeg).toInt = 1 ∧ (c 113 s1.toNatClampNeg).toInt = 5)) from Or.inl ⟨by decide, by omega, by omega⟩)⟩

def wm_X5_drawTarget_e : List Cond := .code yX5_drawTarget cX5_drawTarget 4 none :: (([.fieldLink RX5 39 "TalePlay$Roads" "world" "LTalePlay$World;", .methodLink RX5 95 yX10_sortOf, .instanceMethod yX10_sortOf, .selects RX10 yX10_sortOf yX10_sortOf, .initialized RX10, .code yX10_sortOf cX10_sortOf 2 (some .int), .fieldLink RX10 37 "TalePlay$World" "objects" "I", .fieldLink RX10 15 "TalePlay$World" "sorts" "[I", .fieldLink RX10 21 "TalePlay$World" "kindOf" "[I", .fieldLink RX5 15 "TalePlay$Roads" "doors" "[I", .fieldLink RX5 24 "TalePlay$Roads" "firstSides" "[I", .fieldLink RX5 27 "TalePlay$Roads" "secondSides" "[I", .fieldLink RX5 9 "TalePlay$Roads" "leads" "[I"] : List Cond) ++ wsX50 ++ wsX100)
set_option maxRecDepth 20000 in
theorem gm_X5_drawTarget_e_X10_sortOf_e_95 : GoodIn wm_X5_drawTarget_e (wsV RX5 95 RX10 yX10_sortOf wm_X10_sortOf_e) := goodIn_w (List.forall_mem_append.mpr ⟨List.forall_mem_cons.mpr ⟨List.mem_cons_of_mem _ (List.mem_append_left _ (List.mem_append_left _ (List.mem_of_getElem? (i := 1) rfl))), List.forall_mem_cons.mpr ⟨List.mem_cons_of_mem _ (List.mem_append_left _ (List.mem_append_left _ (List.mem_of_getElem? (i := 2) rfl))), List.forall_mem_cons.mpr ⟨List.mem_cons_of_mem _ (List.mem_append_left _ (List.mem_append_left _ (List.mem_of_getElem? (i := 3) rfl))), List.forall_mem_cons.mpr ⟨List.mem_cons_of_mem _ (List.mem_append_left _ (List.mem_append_left _ (List.mem_of_getElem? (i := 4) rfl))), (fun _ h => absurd h List.not_mem_nil)⟩⟩⟩⟩, List.forall_mem_cons.mpr ⟨List.mem_cons_of_mem _ (List.mem_append_left _ (List.mem_append_left _ (List.mem_of_getElem? (i := 5) rfl))), List.forall_mem_append.mpr ⟨List.forall_mem_cons.mpr ⟨List.mem_cons_of_mem _ (List.mem_append_left _ (List.mem_append_left _ (List.mem_of_getElem? (i := 6) rfl))), List.forall_mem_cons.mpr ⟨List.mem_cons_of_mem _ (List.mem_append_left _ (List.mem_append_left _ (List.mem_of_getElem? (i := 7) rfl))), List.forall_mem_cons.mpr ⟨List.mem_cons_of_mem _ (List.mem_append_left _ (List.mem_append_left _ (List.mem_of_getElem? (i := 8) rfl))), (fun _ h => absurd h List.not_mem_nil)⟩⟩⟩, (fun _ h => List.mem_cons_of_mem _ (List.mem_append_right _ h))⟩⟩⟩) (by decide +kernel)
set_option maxHeartbeats 4000000 in
set_option maxRecDepth 100000 in
theorem x_X5_drawTarget_e (l : Launch) (D : va_G) (sz : Nat) (sk : Value) (a : Nat → Nat) (t : Nat → ClassId) (i : Nat → Int32) (q : Int64) (c : Nat → Nat → Int32) (d : Nat → Nat → Int64) (s1 : Int32) (w1 : Int32) (w2 : Int32) (hI : xInv i c) (hs1 : 0 ≤ s1.toInt ∧ s1.toInt ≤ 299) (hw1 : 0 ≤ w1.toInt ∧ w1.toInt ≤ 29) (hw2 : 0 ≤ w2.toInt ∧ w2.toInt ≤ 29) : Met l yX5_drawTarget wm_X5_drawTarget_e ({ frames := 1, cells := 0, slots := 0, locals := 21 }) (va_Pc [.ref (a 128), .int s1, .int w1, .int w2] (yB (a 186) D sz (xwT sk a t i q c d) (xtT t))) (va_Qv (fun (u : MS) => True ∧ xInv u.1 u.2.2.1 ∧ (∀ k, k ∉ ([] : List Nat) → u.1 k = i k) ∧ (∀ k, k ∉ ([129, 130, 133, 134] : List Nat) → u.2.2.1 k = c k) ∧ (TgR (zX (c 106) (c 108) (i 111).toInt) (c 129) (c 130) (c 133) (c 134) (u.2.2.1 129) (u.2.2.1 130) (u.2.2.1 133) (u.2.2.1 134) s1 w1 w2)) (oC D (va_A (xwT sk a t i q c d) sz) (fun u : MS => xwT sk a t u.1 u.2.1 u.2.2.1 u.2.2.2) (fun _ => [])) (va_A (xwT sk a t i q c d) sz)) 0 0 (va_A (xwT sk a t i q c d) sz) := by
  refine Met.ofW (cc := cX5_drawTarget) (maxL := 4) (ret := none) (by decide +kernel) rfl ?_
  intro p e s m args below meth cd s₁ B hml hv
  obtain ⟨rfl, ⟨hsz, hP, hK, hD0⟩, hN, hZ, hBW⟩ := hv
  have hx := B.exec
  have hb := B.bytes
  have hr := B.returns
  have hts := atoms_spec (ws := wm_X5_drawTarget_e) B.pre
  have hown : s.vm.findClass RX5 = some m.cls := findClass_of_methodNamed B.named
  have hlocks := B.notSynchronized
  subst hsz
  have hD := hD0.self (sz := s.heap.size)
  have hZ := xZ_A hZ hP hBW
  generalize hAe : va_A (xwT sk a t i q c d) s.heap.size = A at hD hZ ⊢
  have hA : ∀ q : Nat, s.heap.size ≤ q → A q := fun q h => by rw [← hAe]; exact Or.inr h
  have hS : va_S A s.heap s.heap [] := va_S.rf
  have hfi : ∀ k, k ∉ ([] : List Nat) → i k = i k := fun _ _ => rfl
  have hfc : ∀ k, k ∉ ([] : List Nat) → c k = c k := fun _ _ => rfl
  have hl := lv_entry ([.ref (a 128), .int s1, .int w1, .int w2]) (n := 4) (Nat.le_of_ble_eq_true rfl)
  rw [lg_entry_eq]
  generalize (lg_sl ([.ref (a 128), .int s1, .int w1, .int w2]) ++ List.replicate (4 - (lg_sl ([.ref (a 128), .int s1, .int w1, .int w2])).length) Slot.unset).toArray = ls at hl ⊢
  have hl : lv_has ls 4 [(0, .ref (a 128)), (1, .int s1), (2, .int w1), (3, .int w2)] := hl
  have rb111_i : 0 ≤ (i 111).toInt ∧ (i 111).toInt ≤ 30 := hI.1 111
  refine lv_aload_n hx hb dX5_drawTarget_0 rfl (lv_at hl 0 rfl) ?_
  refine xgT_R_world hx hb hts (fun _ h => List.mem_cons_of_mem _ (List.mem_append_left _ (List.mem_append_right _ h))) hown hK hP (hts (.fieldLink RX5 39 "TalePlay$Roads" "world" "LTalePlay$World;") (List.mem_cons_of_mem _ (List.mem_append_left _ (List.mem_append_left _ (List.mem_of_getElem? (i := 0) rfl))))) dX5_drawTarget_1 ?_
  refine lv_iload_n hx hb dX5_drawTarget_4 rfl (lv_at hl 3 rfl) ?_
  refine ro_calli (va_runV (As := [.int w2]) (rest := []) ⟨hx, hb, hml, hown, hts⟩ (x_X10_sortOf_e l D s.heap.size .null a t i q c d w2 hI ) (cwV 1 hts gm_X5_drawTarget_e_X10_sortOf_e_95 rfl rfl rfl (by decide +kernel) ⟨Nat.le_of_ble_eq_true rfl, Nat.le_of_ble_eq_true rfl⟩) (yA_V hN (xZ_k hZ hS hA) (xkT_W hK) (xuT_W (sk := sk) hP) (ci := 10) (q0 := 0) rfl rfl) rfl rfl hl.1 rfl (lv_room (Nat.le_of_ble_eq_true rfl)) dX5_drawTarget_5 ⟨Nat.le_of_ble_eq_true rfl, Nat.le_of_ble_eq_true rfl⟩) hS hA hP (fun r1 u1 H locs hw1 hP hS => ?_)
  have hw1 : (((r1.toInt = -9 ∧ ¬ (0 ≤ w2.toInt ∧ w2.toInt < (i 111).toInt)) ∨ (0 ≤ r1.toInt ∧ r1.toInt ≤ 5 ∧ 0 ≤ w2.toInt ∧ w2.toInt < (i 111).toInt)) ∧ (SO (c 106) (c 108) (i 111).toInt w2.toInt r1.toInt)) := hw1
  obtain ⟨hw1, hr1_0⟩ := hw1
  have hr1_0 : SO (c 106) (c 108) (i 111).toInt w2.toInt r1.toInt := hr1_0
  have hzv : r1.toInt = (zX (c 106) (c 108) (i 111).toInt) w2.toInt := SO_z hr1_0
  refine lv_if_ne (tgt := 19) hx hb dX5_drawTarget_8 (by decide +kernel) (fun c2 => ?_) (fun c2 => ?_)
  · have f2 := mt (ti_eq (a := r1.toInt) (b := 0) rfl (by decide +kernel)).mpr c2
    refine lv_aload_n hx hb dX5_drawTarget_19 rfl (lv_at hl 0 rfl) ?_
    refine xgT_R_doors hx hb hts (fun _ h => List.mem_cons_of_mem _ (List.mem_append_left _ (List.mem_append_right _ h))) hown hK hP (hts (.fieldLink RX5 15 "TalePlay$Roads" "doors" "[I") (List.mem_cons_of_mem _ (List.mem_append_left _ (List.mem_append_left _ (List.mem_of_getElem? (i := 9) rfl))))) dX5_drawTarget_20 ?_
    refine lv_iload_n hx hb dX5_drawTarget_23 rfl (lv_at hl 1 rfl) ?_
    refine lv_iload_n hx hb dX5_drawTarget_24 rfl (lv_at hl 3 rfl) ?_
    refine xsT_130 hx hb hK hP hD hS (vp_in_iff.mpr (by have h9 : s1.toInt = s1.toInt := rfl; omega)) dX5_drawTarget_25 (fun H locs hP hD hS => ?_)
    have hI := xInv_c hI (k := 130) (j := (s1 : Int32).toNatClampNeg) (x := w2) (show (w2 : Int32).toInt = -9 ∨ (0 ≤ (w2 : Int32).toInt ∧ (w2 : Int32).toInt ≤ 29) from by omega)
    have hfc : ∀ k, k ∉ ([130] : List Nat) → (updA c 130 (s1 : Int32).toNatClampNeg w2) k = c k := fr_cz hfc (by decide +kernel) (by decide +kernel)
    refine lv_aload_n hx hb dX5_drawTarget_26 rfl (lv_at hl 0 rfl) ?_
    refine xgT_R_firstSides hx hb hts (fun _ h => List.mem_cons_of_mem _ (List.mem_append_left _ (List.mem_append_right _ h))) hown hK hP (hts (.fieldLink RX5 24 "TalePlay$Roads" "firstSides" "[I") (List.mem_cons_of_mem _ (List.mem_append_left _ (List.mem_append_left _ (List.mem_of_getElem? (i := 10) rfl))))) dX5_drawTarget_27 ?_
    refine lv_iload_n hx hb dX5_drawTarget_30 rfl (lv_at hl 3 rfl) ?_
    refine xlT_133 hx hb hK hP (vp_in_iff.mpr (by have h9 : w2.toInt = w2.toInt := rfl; omega)) dX5_drawTarget_31 (fun x3 ex3 => ?_)
    have rx3 : x3.toInt = -9 ∨ (0 ≤ x3.toInt ∧ x3.toInt ≤ 29) := by rw [ex3]; exact hI.2 133 _
    have gx3 : (c 133 (w2 : Int32).toNatClampNeg).toInt = x3.toInt := (congrArg Int32.toInt ex3).symm
    refine lv_bipush (v := (-9)) hx hb dX5_drawTarget_32 (by decide +kernel) ?_
    refine lv_icmp_ne (tgt := 47) hx hb dX5_drawTarget_34 (by decide +kernel) (fun c4 => ?_) (fun c4 => ?_)
    · have f4 := mt (ti_eq (a := x3.toInt) (b := (-9)) rfl (by decide +kernel)).mpr c4
      refine lv_aload_n hx hb dX5_drawTarget_47 rfl (lv_at hl 0 rfl) ?_
      refine xgT_R_secondSides hx hb hts (fun _ h => List.mem_cons_of_mem _ (List.mem_append_left _ (List.mem_append_right _ h))) hown hK hP (hts (.fieldLink RX5 27 "TalePlay$Roads" "secondSides" "[I") (List.mem_cons_of_mem _ (List.mem_append_left _ (List.mem_append_left _ (List.mem_of_getElem? (i := 11) rfl))))) dX5_drawTarget_48 ?_
      refine lv_iload_n hx hb dX5_drawTarget_51 rfl (lv_at hl 3 rfl) ?_
      refine lv_iload_n hx hb dX5_drawTarget_52 rfl (lv_at hl 2 rfl) ?_
      refine xsT_134 hx hb hK hP hD hS (vp_in_iff.mpr (by have h9 : w2.toInt = w2.toInt := rfl; omega)) dX5_drawTarget_53 (fun H locs hP hD hS => ?_)
      have hI := xInv_c hI (k := 134) (j := (w2 : Int32).toNatClampNeg) (x := w1) (show (w1 : Int32).toInt = -9 ∨ (0 ≤ (w1 : Int32).toInt ∧ (w1 : Int32).toInt ≤ 29) from by omega)
      have hfc : ∀ k, k ∉ ([130, 134] : List Nat) → (updA (updA c 130 (s1 : Int32).toNatClampNeg w2) 134 (w2 : Int32).toNatClampNeg w1) k = c k := fr_cz hfc (by decide +kernel) (by decide +kernel)
      exact rw_vret (i, q, (updA (updA c 130 (s1 : Int32).toNatClampNeg w2) 134 (w2 : Int32).toNatClampNeg w1), d) hx hb hr hlocks hS (hK.sub (tys' := []) [] rfl) hP hD dX5_drawTarget_54 ⟨trivial, hI, fr_w hfi (by decide +kernel), fr_w hfc (by decide +kernel), (show TgR (zX (c 106) (c 108) (i 111).toInt) (c 129) (c 130) (c 133) (c 134) ((updA (updA c 130 (s1 : Int32).toNatClampNeg w2) 134 (w2 : Int32).toNatClampNeg w1) 129) ((updA (updA c 130 (s1 : Int32).toNatClampNeg w2) 134 (w2 : Int32).toNatClampNeg w1) 130) ((updA (updA c 130 (s1 : Int32).toNatClampNeg w2) 134 (w2 : Int32).toNatClampNeg w1) 133) ((updA (updA c 130 (s1 : Int32).toNatClampNeg w2) 134 (w2 : Int32).toNatClampNeg w1) 134) s1 w1 w2 from Or.inr ⟨by omega, rfl, rfl, Or.inr ⟨by omega, rfl, rfl⟩⟩)⟩
    · have f4 := (ti_eq (a := x3.toInt) (b := (-9)) rfl (by decide +kernel)).mp c4
      refine lv_aload_n hx hb dX5_drawTarget_37 rfl (lv_at hl 0 rfl) ?_
      refine xgT_R_firstSides hx hb hts (fun _ h => List.mem_cons_of_mem _ (List.mem_append_left _ (List.mem_append_right _ h))) hown hK hP (hts (.fieldLink RX5 24 "TalePlay$Roads" "firstSides" "[I") (List.mem_cons_of_mem _ (List.mem_append_left _ (List.mem_append_left _ (List.mem_of_getElem? (i := 10) rfl))))) dX5_drawTarget_38 ?_
      refine lv_iload_n hx hb dX5_drawTarget_41 rfl (lv_at hl 3 rfl) ?_
      refine lv_iload_n hx hb dX5_drawTarget_42 rfl (lv_at hl 2 rfl) ?_
      refine xsT_133 hx hb hK hP hD hS (vp_in_iff.mpr (by have h9 : w2.toInt = w2.toInt := rfl; omega)) dX5_drawTarget_43 (fun H locs hP hD hS => ?_)
      have hI := xInv_c hI (k := 133) (j := (w2 : Int32).toNatClampNeg) (x := w1) (show (w1 : Int32).toInt = -9 ∨ (0 ≤ (w1 : Int32).toInt ∧ (w1 : Int32).toInt ≤ 29) from by omega)
      have hfc : ∀ k, k ∉ ([130, 133] : List Nat) → (updA (updA c 130 (s1 : Int32).toNatClampNeg w2) 133 (w2 : Int32).toNatClampNeg w1) k = c k := fr_cz hfc (by decide +kernel) (by decide +kernel)
      refine lv_goto (tgt := 54) hx hb dX5_drawTarget_44 (by decide +kernel) ?_
      exact rw_vret (i, q, (updA (updA c 130 (s1 : Int32).toNatClampNeg w2) 133 (w2 : Int32).toNatClampNeg w1), d) hx hb hr hlocks hS (hK.sub (tys' := []) [] rfl) hP hD dX5_drawTarget_54 ⟨trivial, hI, fr_w hfi (by decide +kernel), fr_w hfc (by decide +kernel), (show TgR (zX (c 106) (c 108) (i 111).toInt) (c 129) (c 130) (c 133) (c 134) ((updA (updA c 130 (s1 : Int32).toNatClampNeg w2) 133 (w2 : Int32).toNatClampNeg w1) 129) ((updA (updA c 130 (s1 : Int32).toNatClampNeg w2) 133 (w2 : Int32).toNatClampNeg w1) 130) ((updA (updA c 130 (s1 : Int32).toNatClampNeg w2) 133 (w2 : Int32).toNatClampNeg w1) 133) ((updA (updA c 130 (s1 : Int32).toNatClampNeg w2) 133 (w2 : Int32).toNatClampNeg w1) 134) s1 w1 w2 from Or.inr ⟨by omega, rfl, rfl, Or.inl ⟨by omega, rfl, rfl⟩⟩)⟩
  · have f2 := (ti_eq (a := r1.toInt) (b := 0) rfl (by decide +kernel)).mp c2
    refine lv_aload_n hx hb dX5_drawTarget_11 rfl (lv_at hl 0 rfl) ?_
    refine xgT_R_leads hx hb hts (fun _ h => List.mem_cons_of_mem _ (List.mem_append_left _ (List.mem_append_right _ h))) hown hK hP (hts (.fieldLink RX5 9 "TalePlay$Roads" "leads" "[I") (List.mem_cons_of_mem _ (List.mem_append_left _ (List.mem_append_left _ (List.mem_of_getElem? (i := 12) rfl))))) dX5_drawTarget_12 ?_
    refine lv_iload_n hx hb dX5_drawTarget_15 rfl (lv_at hl 1 rfl) ?_
    refine lv_iload_n hx hb dX5_drawTarget_16 rfl (lv_at hl 3 rfl) ?_
    refine xsT_129 hx hb hK hP hD hS (vp_in_iff.mpr (by have h9 : s1.toInt = s1.toInt := rfl; omega)) dX5_drawTarget_17 (fun H locs hP hD hS => ?_)
    have hI := xInv_c hI (k := 129) (j := (s1 : Int32).toNatClampNeg) (x := w2) (show (w2 : Int32).toInt = -9 ∨ (0 ≤ (w2 : Int32).toInt ∧ (w2 : Int32).toInt ≤ 29) from by omega)
    have hfc : ∀ k, k ∉ ([129] : List Nat) → (updA c 129 (s1 : Int32).toNatClampNeg w2) k = c k := fr_cz hfc (by decide +kernel) (by decide +kernel)
    exact rw_vret (i, q, (updA c 129 (s1 : Int32).toNatClampNeg w2), d) hx hb hr hlocks hS (hK.sub (tys' := []) [] rfl) hP hD dX5_drawTarget_18 ⟨trivial, hI, fr_w hfi (by decide +kernel), fr_w hfc (by decide +kernel), (show TgR (zX (c 106) (c 108) (i 111).toInt) (c 129) (c 130) (c 133) (c 134) ((updA c 129 (s1 : Int32).toNatClampNeg w2) 129) ((updA c 129 (s1 : Int32).toNatClampNeg w2) 130) ((updA c 129 (s1 : Int32).toNatClampNeg w2) 133) ((updA c 129 (s1 : Int32).toNatClampNeg w2) 134) s1 w1 w2 from Or.inl ⟨by omega, rfl, rfl, rfl, rfl⟩)⟩

