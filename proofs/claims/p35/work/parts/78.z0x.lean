def wm_X7_tellPlay_eS : List Cond := .code yX7_tellPlay cX7_tellPlay 3 none :: (([.fieldLink RX7 83 "TalePlay$Seeker" "found" "I", .fieldLink RX7 61 "TalePlay$Seeker" "playLength" "I", .fieldLink RX7 27 "TalePlay$Seeker" "play" "[I", .fieldLink RX7 24 "TalePlay$Seeker" "deeds" "[I", .fieldLink RX7 21 "TalePlay$Seeker" "parents" "[I"] : List Cond) ++ wsX70)
set_option maxHeartbeats 4000000 in
set_option maxRecDepth 100000 in
theorem x_X7_tellPlay_eS (l : Launch) (D : va_G) (sz : Nat) (sk : Value) (a : Nat → Nat) (t : Nat → ClassId) (i : Nat → Int32) (q : Int64) (c : Nat → Nat → Int32) (d : Nat → Nat → Int64) (hI : xInv i c) (hs_F : FrX (c 170) (i 174).toInt (i 175).toInt) : Met l yX7_tellPlay wm_X7_tellPlay_eS ({ frames := 0, cells := 0, slots := 0, locals := 0 }) (va_Pc [.ref (a 166)] (yB (a 186) D sz (xwS sk a t i q c d) (xtS t))) (va_Qv (fun (u : MS) => True ∧ xInv u.1 u.2.2.1 ∧ (∀ k, k ∉ ([173] : List Nat) → u.1 k = i k) ∧ (∀ k, k ∉ ([172] : List Nat) → u.2.2.1 k = c k) ∧ (TpR (c 170) (c 171) (i 175) (u.1 173) (u.2.2.1 172))) (oC D (va_A (xwS sk a t i q c d) sz) (fun u : MS => xwS sk a t u.1 u.2.1 u.2.2.1 u.2.2.2) (fun _ => [])) (va_A (xwS sk a t i q c d) sz)) 0 0 (va_A (xwS sk a t i q c d) sz) := by
  refine Met.ofW (cc := cX7_tellPlay) (maxL := 3) (ret := none) (by decide +kernel) rfl ?_
  intro p e s m args below meth cd s₁ B hml hv
  obtain ⟨rfl, ⟨hsz, hP, hK, hD0⟩, hN, hZ, hBW⟩ := hv
  have hx := B.exec
  have hb := B.bytes
  have hr := B.returns
  have hts := atoms_spec (ws := wm_X7_tellPlay_eS) B.pre
  have hown : s.vm.findClass RX7 = some m.cls := findClass_of_methodNamed B.named
  have hlocks := B.notSynchronized
  subst hsz
  have hD := hD0.self (sz := s.heap.size)
  have hZ := xZ_A hZ hP hBW
  generalize hAe : va_A (xwS sk a t i q c d) s.heap.size = A at hD hZ ⊢
  have hA : ∀ q : Nat, s.heap.size ≤ q → A q := fun q h => by rw [← hAe]; exact Or.inr h
  have hS : va_S A s.heap s.heap [] := va_S.rf
  have hfi : ∀ k, k ∉ ([] : List Nat) → i k = i k := fun _ _ => rfl
  have hfc : ∀ k, k ∉ ([] : List Nat) → c k = c k := fun _ _ => rfl
  have hl := lv_entry ([.ref (a 166)]) (n := 3) (Nat.le_of_ble_eq_true rfl)
  rw [lg_entry_eq]
  generalize (lg_sl ([.ref (a 166)]) ++ List.replicate (3 - (lg_sl ([.ref (a 166)])).length) Slot.unset).toArray = ls at hl ⊢
  have hl : lv_has ls 3 [(0, .ref (a 166))] := hl
  have rb174_i : 0 ≤ (i 174).toInt ∧ (i 174).toInt ≤ 300 := hI.1 174
  have rb175_i : (i 175).toInt = -9 ∨ (0 ≤ (i 175).toInt ∧ (i 175).toInt ≤ 299) := hI.1 175
  refine lv_aload_n hx hb dX7_tellPlay_0 rfl (lv_at hl 0 rfl) ?_
  refine xgS_S_found (v := (i 175)) rfl hx hb hts (fun _ h => List.mem_cons_of_mem _ (List.mem_append_right _ h)) hown hK hP (hts (.fieldLink RX7 83 "TalePlay$Seeker" "found" "I") (List.mem_cons_of_mem _ (List.mem_append_left _ (List.mem_of_getElem? (i := 0) rfl)))) dX7_tellPlay_1 ?_
  refine lv_bipush (v := (-9)) hx hb dX7_tellPlay_4 (by decide +kernel) ?_
  refine lv_icmp_ne (tgt := 16) hx hb dX7_tellPlay_6 (by decide +kernel) (fun c1 => ?_) (fun c1 => ?_)
  · have f1 := mt (ti_eq (a := (i 175).toInt) (b := (-9)) rfl (by decide +kernel)).mpr c1
    refine lv_aload_n hx hb dX7_tellPlay_16 rfl (lv_at hl 0 rfl) ?_
    refine lv_iconst (v := 0) hx hb dX7_tellPlay_17 (by decide +kernel) ?_
    refine xpS_S_playLength hx hb hts (fun _ h => List.mem_cons_of_mem _ (List.mem_append_right _ h)) hown hK hP hD hS (hts (.fieldLink RX7 61 "TalePlay$Seeker" "playLength" "I") (List.mem_cons_of_mem _ (List.mem_append_left _ (List.mem_of_getElem? (i := 1) rfl)))) rfl rfl dX7_tellPlay_18 (fun H locs hP hD hS => ?_)
    have hI := xInv_i hI (k := 173) (v := 0) (show (0 : Int32).toInt = -9 ∨ (0 ≤ (0 : Int32).toInt ∧ (0 : Int32).toInt ≤ 300) from by decide +kernel)
    have hfi : ∀ k, k ∉ ([173] : List Nat) → (upd i 173 0) k = i k := fr_iz hfi (by decide +kernel) (by decide +kernel)
    refine lv_aload_n hx hb dX7_tellPlay_21 rfl (lv_at hl 0 rfl) ?_
    refine xgS_S_found (i := (upd i 173 0)) (v := (i 175)) rfl hx hb hts (fun _ h => List.mem_cons_of_mem _ (List.mem_append_right _ h)) hown hK hP (hts (.fieldLink RX7 83 "TalePlay$Seeker" "found" "I") (List.mem_cons_of_mem _ (List.mem_append_left _ (List.mem_of_getElem? (i := 0) rfl)))) dX7_tellPlay_22 ?_
    refine lv_istore_n (lv' := [(1, .int (i 175)), (0, .ref (a 166))]) hx hb dX7_tellPlay_25 rfl hl (by decide +kernel) rfl (fun ls hl => ?_)
    have lp2 : ∀ (fu : Nat) (i2 : Nat → Int32) (q2 : Int64) (c2 : Nat → Nat → Int32) (d2 : Nat → Nat → Int64) (y2_1 : Int32), xInv i2 c2 → (∀ k, k ∉ ([173] : List Nat) → i2 k = i k) → (∀ k, k ∉ ([] : List Nat) → c2 k = c k) → (y2_1.toInt = -9 ∨ (0 ≤ y2_1.toInt ∧ y2_1.toInt ≤ 299)) → (0 ≤ ((i2 173) : Int32).toInt) → (ApK (c 170) (i 175).toInt.toNat ((i2 173) : Int32).toInt y2_1.toInt) → (300 - ((i2 173) : Int32).toInt).toNat < fu → ∀ (H : Heap) (locs : List Loc) (ls : Array Slot), va_P D vwCl (xwS sk a t i2 q2 c2 d2) H → va_D A (xwS sk a t i2 q2 c2 d2) → va_S A s.heap H locs → lv_has ls 3 [(1, .int y2_1), (0, .ref (a 166))] → W p l e (headSpec wm_X7_tellPlay_eS ({ frames := 0, cells := 0, slots := 0, locals := 0 })).room s m ([.ref (a 166)] : List Value).toArray below meth cd H locs 0 0 (MQ below (va_Qv (fun (u : MS) => True ∧ xInv u.1 u.2.2.1 ∧ (∀ k, k ∉ ([173] : List Nat) → u.1 k = i k) ∧ (∀ k, k ∉ ([172] : List Nat) → u.2.2.1 k = c k) ∧ (TpR (c 170) (c 171) (i 175) (u.1 173) (u.2.2.1 172))) (oC D A (fun u : MS => xwS sk a t u.1 u.2.1 u.2.2.1 u.2.2.2) (fun _ => [])) A) ([.ref (a 166)] : List Value).toArray s 0 0 A) (F0 m 26 ls []) := by
      intro fu
      induction fu with
      | zero => intro i2 q2 c2 d2 y2_1 hI hfi hfc hy2_1 hz2_0 hz2_1 hm; exact absurd hm (Nat.not_lt_zero _)
      | succ fu ih =>
        intro i2 q2 c2 d2 y2_1 hI hfi hfc hy2_1 hz2_0 hz2_1 hm H locs ls hP hD hS hl
        have ih2 := ih
        have hm2 := hm
        refine lv_iload_n hx hb dX7_tellPlay_26 rfl (lv_at hl 0 rfl) ?_
        refine lv_if_le (tgt := 60) hx hb dX7_tellPlay_27 (by decide +kernel) (fun c3 => ?_) (fun c3 => ?_)
        · have f3 := (ti_le (a := y2_1.toInt) (b := 0) rfl (by decide +kernel)).mp c3
          refine lv_aload_n hx hb dX7_tellPlay_60 rfl (lv_at hl 1 rfl) ?_
          refine xgS_S_found (v := (i2 175)) rfl hx hb hts (fun _ h => List.mem_cons_of_mem _ (List.mem_append_right _ h)) hown hK hP (hts (.fieldLink RX7 83 "TalePlay$Seeker" "found" "I") (List.mem_cons_of_mem _ (List.mem_append_left _ (List.mem_of_getElem? (i := 0) rfl)))) dX7_tellPlay_61 ?_
          have rb175_i2 : (i2 175).toInt = -9 ∨ (0 ≤ (i2 175).toInt ∧ (i2 175).toInt ≤ 299) := hI.1 175
          have re175_i2 : (i2 175).toInt = (i 175).toInt := congrArg Int32.toInt (hfi 175 (by decide +kernel))
          refine lv_istore_n (lv' := [(1, .int (i2 175)), (0, .ref (a 166))]) hx hb dX7_tellPlay_64 rfl hl (by decide +kernel) rfl (fun ls hl => ?_)
          refine lv_aload_n hx hb dX7_tellPlay_65 rfl (lv_at hl 1 rfl) ?_
          refine xgS_S_playLength (v := (i2 173)) rfl hx hb hts (fun _ h => List.mem_cons_of_mem _ (List.mem_append_right _ h)) hown hK hP (hts (.fieldLink RX7 61 "TalePlay$Seeker" "playLength" "I") (List.mem_cons_of_mem _ (List.mem_append_left _ (List.mem_of_getElem? (i := 1) rfl)))) dX7_tellPlay_66 ?_
          have rb173_i2 : (i2 173).toInt = -9 ∨ (0 ≤ (i2 173).toInt ∧ (i2 173).toInt ≤ 300) := hI.1 173
          refine lv_iconst (v := 1) hx hb dX7_tellPlay_69 (by decide +kernel) ?_
          refine lv_isub hx hb dX7_tellPlay_70 ?_
          refine lv_topi (fun x4 ex4 => ?_)
          have tx4 := ti_sub (a := (i2 173).toInt) (b := 1) ex4 rfl (by decide +kernel) (by omega) (by omega)
          refine lv_istore_n (lv' := [(2, .int x4), (1, .int (i2 175)), (0, .ref (a 166))]) hx hb dX7_tellPlay_71 rfl hl (by decide +kernel) rfl (fun ls hl => ?_)
          have lp5 : ∀ (fu : Nat) (i5 : Nat → Int32) (q5 : Int64) (c5 : Nat → Nat → Int32) (d5 : Nat → Nat → Int64) (y5_2 : Int32) (y5_1 : Int32), xInv i5 c5 → (∀ k, k ∉ ([173] : List Nat) → i5 k = i k) → (∀ k, k ∉ ([172] : List Nat) → c5 k = c k) → (-1 ≤ y5_2.toInt ∧ y5_2.toInt ≤ 299) → (y5_1.toInt = -9 ∨ (0 ≤ y5_1.toInt ∧ y5_1.toInt ≤ 299)) → (PyK (c 170) (c 171) (c5 172) (i 175).toInt.toNat ((i5 173) : Int32).toInt y5_2.toInt y5_1.toInt) → (y5_1.toInt ≤ (i 175).toInt) → (ApK (c 170) (i 175).toInt.toNat ((i5 173) : Int32).toInt 0) → (y5_2.toInt + 1).toNat < fu → ∀ (H : Heap) (locs : List Loc) (ls : Array Slot), va_P D vwCl (xwS sk a t i5 q5 c5 d5) H → va_D A (xwS sk a t i5 q5 c5 d5) → va_S A s.heap H locs → lv_has ls 3 [(2, .int y5_2), (1, .int y5_1), (0, .ref (a 166))] → W p l e (headSpec wm_X7_tellPlay_eS ({ frames := 0, cells := 0, slots := 0, locals := 0 })).room s m ([.ref (a 166)] : List Value).toArray below meth cd H locs 0 0 (MQ below (va_Qv (fun (u : MS) => True ∧ xInv u.1 u.2.2.1 ∧ (∀ k, k ∉ ([173] : List Nat) → u.1 k = i k) ∧ (∀ k, k ∉ ([172] : List Nat) → u.2.2.1 k = c k) ∧ (TpR (c 170) (c 171) (i 175) (u.1 173) (u.2.2.1 172))) (oC D A (fun u : MS => xwS sk a t u.1 u.2.1 u.2.2.1 u.2.2.2) (fun _ => [])) A) ([.ref (a 166)] : List Value).toArray s 0 0 A) (F0 m 72 ls []) := by
            intro fu
            induction fu with
            | zero => intro i5 q5 c5 d5 y5_2 y5_1 hI hfi hfc hy5_2 hy5_1 hz5_0 hz5_1 hz5_2 hm; exact absurd hm (Nat.not_lt_zero _)
            | succ fu ih =>
              intro i5 q5 c5 d5 y5_2 y5_1 hI hfi hfc hy5_2 hy5_1 hz5_0 hz5_1 hz5_2 hm H locs ls hP hD hS hl
              have ih5 := ih
              refine lv_iload_n hx hb dX7_tellPlay_72 rfl (lv_at hl 0 rfl) ?_
              refine lv_if_lt (tgt := 105) hx hb dX7_tellPlay_73 (by decide +kernel) (fun c6 => ?_) (fun c6 => ?_)
              · have f6 := (ti_lt (a := y5_2.toInt) (b := 0) rfl (by decide +kernel)).mp c6
                exact rw_vret (i5, q5, c5, d5) hx hb hr hlocks hS (hK.sub (tys' := []) [] rfl) hP hD dX7_tellPlay_105 ⟨trivial, hI, fr_w hfi (by decide +kernel), fr_w hfc (by decide +kernel), (show TpR (c 170) (c 171) (i 175) ((i5 173) : Int32) (c5 172) from tpE hz5_2 hz5_0 (by omega) (by omega) (by omega))⟩
              · have f6 := mt (ti_lt (a := y5_2.toInt) (b := 0) rfl (by decide +kernel)).mpr c6
                refine lv_iload_n hx hb dX7_tellPlay_76 rfl (lv_at hl 1 rfl) ?_
                refine lv_if_le (tgt := 105) hx hb dX7_tellPlay_77 (by decide +kernel) (fun c7 => ?_) (fun c7 => ?_)
                · have f7 := (ti_le (a := y5_1.toInt) (b := 0) rfl (by decide +kernel)).mp c7
                  exact rw_vret (i5, q5, c5, d5) hx hb hr hlocks hS (hK.sub (tys' := []) [] rfl) hP hD dX7_tellPlay_105 ⟨trivial, hI, fr_w hfi (by decide +kernel), fr_w hfc (by decide +kernel), (show TpR (c 170) (c 171) (i 175) ((i5 173) : Int32) (c5 172) from tpE hz5_2 hz5_0 (by omega) (by omega) (by omega))⟩
                · have f7 := mt (ti_le (a := y5_1.toInt) (b := 0) rfl (by decide +kernel)).mpr c7
                  refine lv_aload_n hx hb dX7_tellPlay_80 rfl (lv_at hl 2 rfl) ?_
                  refine xgS_S_play hx hb hts (fun _ h => List.mem_cons_of_mem _ (List.mem_append_right _ h)) hown hK hP (hts (.fieldLink RX7 27 "TalePlay$Seeker" "play" "[I") (List.mem_cons_of_mem _ (List.mem_append_left _ (List.mem_of_getElem? (i := 2) rfl)))) dX7_tellPlay_81 ?_
                  refine lv_iload_n hx hb dX7_tellPlay_84 rfl (lv_at hl 0 rfl) ?_
                  refine lv_aload_n hx hb dX7_tellPlay_85 rfl (lv_at hl 2 rfl) ?_
                  refine xgS_S_deeds hx hb hts (fun _ h => List.mem_cons_of_mem _ (List.mem_append_right _ h)) hown hK hP (hts (.fieldLink RX7 24 "TalePlay$Seeker" "deeds" "[I") (List.mem_cons_of_mem _ (List.mem_append_left _ (List.mem_of_getElem? (i := 3) rfl)))) dX7_tellPlay_86 ?_
                  refine lv_iload_n hx hb dX7_tellPlay_89 rfl (lv_at hl 1 rfl) ?_
                  refine xlS_171 hx hb hK hP (vp_in_iff.mpr (by have h9 : y5_1.toInt = y5_1.toInt := rfl; omega)) dX7_tellPlay_90 (fun x8 ex8 => ?_)
                  refine xsS_172 hx hb hK hP hD hS (vp_in_iff.mpr (by have h9 : y5_2.toInt = y5_2.toInt := rfl; omega)) dX7_tellPlay_91 (fun H locs hP hD hS => ?_)
                  have hI := xInv_c hI (k := 172) (j := (y5_2 : Int32).toNatClampNeg) (x := x8) (show True from trivial)
                  have hfc := fr_c hfc (k := 172) (j := (y5_2 : Int32).toNatClampNeg) (x := x8) (by decide +kernel)
                  refine lv_aload_n hx hb dX7_tellPlay_92 rfl (lv_at hl 2 rfl) ?_
                  refine xgS_S_parents hx hb hts (fun _ h => List.mem_cons_of_mem _ (List.mem_append_right _ h)) hown hK hP (hts (.fieldLink RX7 21 "TalePlay$Seeker" "parents" "[I") (List.mem_cons_of_mem _ (List.mem_append_left _ (List.mem_of_getElem? (i := 4) rfl)))) dX7_tellPlay_93 ?_
                  refine lv_iload_n hx hb dX7_tellPlay_96 rfl (lv_at hl 1 rfl) ?_
                  refine xlS_170 hx hb hK hP (vp_in_iff.mpr (by have h9 : y5_1.toInt = y5_1.toInt := rfl; omega)) dX7_tellPlay_97 (fun x9 ex9 => ?_)
                  have rx9 : x9.toInt = -9 ∨ (0 ≤ x9.toInt ∧ x9.toInt ≤ 299) := by rw [ex9]; exact hI.2 170 _
                  refine lv_istore_n (lv' := [(1, .int x9), (2, .int y5_2), (0, .ref (a 166))]) hx hb dX7_tellPlay_98 rfl hl (by decide +kernel) rfl (fun ls hl => ?_)
                  obtain ⟨x10, ex10⟩ : ∃ y : Int32, y = y5_2 + (-1) := ⟨_, rfl⟩
                  have tx10 := ti_add (a := y5_2.toInt) (b := (-1)) ex10 rfl (by decide +kernel) (by omega) (by omega)
                  refine lv_iinc (v := x10) (lv' := [(2, .int x10), (1, .int x9), (0, .ref (a 166))]) hx hb dX7_tellPlay_99 hl (k := 1) rfl (by rw [ex10]; rfl) (by decide +kernel) rfl (fun ls hl => ?_)
                  refine lv_goto (tgt := 72) hx hb dX7_tellPlay_102 (by decide +kernel) ?_
                  exact ih5 i5 q5 (updA c5 172 (y5_2 : Int32).toNatClampNeg x8) d5 x10 x9 hI (fr_w hfi (by decide +kernel)) (fr_w hfc (by decide +kernel)) (show -1 ≤ x10.toInt ∧ x10.toInt ≤ 299 from by have h50 : x10.toInt = (y5_2.toInt + (-1)) := tx10; omega) (show x9.toInt = -9 ∨ (0 ≤ x9.toInt ∧ x9.toInt ≤ 299) from by have h50 : x10.toInt = (y5_2.toInt + (-1)) := tx10; omega) (show PyK (c 170) (c 171) ((updA c5 172 (y5_2 : Int32).toNatClampNeg x8) 172) (i 175).toInt.toNat ((i5 173) : Int32).toInt x10.toInt x9.toInt from PyK_s (x := y5_1) (st := (i 174).toInt) hz5_0 (by omega) (by omega) (by have h9 := hs_F.2; have h8 := hz5_1; omega) hs_F.1 (show x9 = c 170 y5_1.toNatClampNeg from by rw [ex9, show (updA c5 172 (y5_2 : Int32).toNatClampNeg x8) 170 = c 170 from hfc 170 (by decide +kernel)]) (show x8 = c 171 y5_1.toNatClampNeg from by rw [ex8, show c5 171 = c 171 from hfc 171 (by decide +kernel)]) (by have h9 : x10.toInt = (y5_2.toInt + (-1)) := tx10; omega)) (show x9.toInt ≤ (i 175).toInt from by have h9 := hs_F.1 y5_1.toNatClampNeg (by have h7 : y5_1.toNatClampNeg = y5_1.toInt.toNat := rfl; omega) (by have h7 : y5_1.toNatClampNeg = y5_1.toInt.toNat := rfl; have h6 := hs_F.2; have h5 := hz5_1; omega); rw [← (show x9 = c 170 y5_1.toNatClampNeg from by rw [ex9, show (updA c5 172 (y5_2 : Int32).toNatClampNeg x8) 170 = c 170 from hfc 170 (by decide +kernel)])] at h9; have h8 := hz5_1; have h7 : y5_1.toNatClampNeg = y5_1.toInt.toNat := rfl; omega) (show ApK (c 170) (i 175).toInt.toNat ((i5 173) : Int32).toInt 0 from hz5_2) (by have h50 : x10.toInt = (y5_2.toInt + (-1)) := tx10; omega) _ _ _ hP hD hS (lv_sub hl [0, 1, 2] rfl)
          exact lp5 _ i2 q2 c2 d2 x4 (i2 175) hI (fr_w hfi (by decide +kernel)) (fr_w hfc (by decide +kernel)) (show -1 ≤ x4.toInt ∧ x4.toInt ≤ 299 from by have h50 : x4.toInt = ((i2 173).toInt - 1) := tx4; omega) (show (i2 175).toInt = -9 ∨ (0 ≤ (i2 175).toInt ∧ (i2 175).toInt ≤ 299) from by have h50 : x4.toInt = ((i2 173).toInt - 1) := tx4; omega) (show PyK (c 170) (c 171) (c2 172) (i 175).toInt.toNat ((i2 173) : Int32).toInt x4.toInt (i2 175).toInt from by rw [show i2 175 = i 175 from hfi 175 (by decide +kernel)]; exact PyK_0 (f := (i 175)) (by omega) (by omega) (by have h9 : x4.toInt = ((i2 173).toInt - 1) := tx4; omega)) (show (i2 175).toInt ≤ (i 175).toInt from by rw [show i2 175 = i 175 from hfi 175 (by decide +kernel)]; exact Int.le_refl _) (show ApK (c 170) (i 175).toInt.toNat ((i2 173) : Int32).toInt 0 from by have h9 := hz2_1; have h8 := h9.2.2.1; have h7 := h9.2.1; rw [show y2_1.toInt = 0 by omega] at h9; exact h9) (Nat.lt_succ_self _) _ _ _ hP hD hS (lv_sub hl [0, 1, 2] rfl)
        · have f3 := mt (ti_le (a := y2_1.toInt) (b := 0) rfl (by decide +kernel)).mpr c3
          refine lv_aload_n hx hb dX7_tellPlay_30 rfl (lv_at hl 1 rfl) ?_
          refine xgS_S_playLength (v := (i2 173)) rfl hx hb hts (fun _ h => List.mem_cons_of_mem _ (List.mem_append_right _ h)) hown hK hP (hts (.fieldLink RX7 61 "TalePlay$Seeker" "playLength" "I") (List.mem_cons_of_mem _ (List.mem_append_left _ (List.mem_of_getElem? (i := 1) rfl)))) dX7_tellPlay_31 ?_
          have rb173_i2 : (i2 173).toInt = -9 ∨ (0 ≤ (i2 173).toInt ∧ (i2 173).toInt ≤ 300) := hI.1 173
          refine lv_sipush (v := 300) hx hb dX7_tellPlay_34 (by decide +kernel) ?_
          refine lv_icmp_ge (tgt := 60) hx hb dX7_tellPlay_37 (by decide +kernel) (fun c11 => ?_) (fun c11 => ?_)
          · have f11 := (ti_le (a := 300) (b := (i2 173).toInt) (by decide +kernel) rfl).mp c11
            refine lv_aload_n hx hb dX7_tellPlay_60 rfl (lv_at hl 1 rfl) ?_
            refine xgS_S_found (v := (i2 175)) rfl hx hb hts (fun _ h => List.mem_cons_of_mem _ (List.mem_append_right _ h)) hown hK hP (hts (.fieldLink RX7 83 "TalePlay$Seeker" "found" "I") (List.mem_cons_of_mem _ (List.mem_append_left _ (List.mem_of_getElem? (i := 0) rfl)))) dX7_tellPlay_61 ?_
            have rb175_i2 : (i2 175).toInt = -9 ∨ (0 ≤ (i2 175).toInt ∧ (i2 175).toInt ≤ 299) := hI.1 175
            have re175_i2 : (i2 175).toInt = (i 175).toInt := congrArg Int32.toInt (hfi 175 (by decide +kernel))
            refine lv_istore_n (lv' := [(1, .int (i2 175)), (0, .ref (a 166))]) hx hb dX7_tellPlay_64 rfl hl (by decide +kernel) rfl (fun ls hl => ?_)
            refine lv_aload_n hx hb dX7_tellPlay_65 rfl (lv_at hl 1 rfl) ?_
            refine xgS_S_playLength (v := (i2 173)) rfl hx hb hts (fun _ h => List.mem_cons_of_mem _ (List.mem_append_right _ h)) hown hK hP (hts (.fieldLink RX7 61 "TalePlay$Seeker" "playLength" "I") (List.mem_cons_of_mem _ (List.mem_append_left _ (List.mem_of_getElem? (i := 1) rfl)))) dX7_tellPlay_66 ?_
            refine lv_iconst (v := 1) hx hb dX7_tellPlay_69 (by decide +kernel) ?_
            refine lv_isub hx hb dX7_tellPlay_70 ?_
            refine lv_topi (fun x12 ex12 => ?_)
            have tx12 := ti_sub (a := (i2 173).toInt) (b := 1) ex12 rfl (by decide +kernel) (by omega) (by omega)
            refine lv_istore_n (lv' := [(2, .int x12), (1, .int (i2 175)), (0, .ref (a 166))]) hx hb dX7_tellPlay_71 rfl hl (by decide +kernel) rfl (fun ls hl => ?_)
            have lp13 : ∀ (fu : Nat) (i13 : Nat → Int32) (q13 : Int64) (c13 : Nat → Nat → Int32) (d13 : Nat → Nat → Int64) (y13_2 : Int32) (y13_1 : Int32), xInv i13 c13 → (∀ k, k ∉ ([173] : List Nat) → i13 k = i k) → (∀ k, k ∉ ([172] : List Nat) → c13 k = c k) → (-1 ≤ y13_2.toInt ∧ y13_2.toInt ≤ 299) → (y13_1.toInt = -9 ∨ (0 ≤ y13_1.toInt ∧ y13_1.toInt ≤ 299)) → (PyK (c 170) (c 171) (c13 172) (i 175).toInt.toNat ((i13 173) : Int32).toInt y13_2.toInt y13_1.toInt) → (y13_1.toInt ≤ (i 175).toInt) → (ApK (c 170) (i 175).toInt.toNat ((i13 173) : Int32).toInt 0) → (y13_2.toInt + 1).toNat < fu → ∀ (H : Heap) (locs : List Loc) (ls : Array Slot), va_P D vwCl (xwS sk a t i13 q13 c13 d13) H → va_D A (xwS sk a t i13 q13 c13 d13) → va_S A s.heap H locs → lv_has ls 3 [(2, .int y13_2), (1, .int y13_1), (0, .ref (a 166))] → W p l e (headSpec wm_X7_tellPlay_eS ({ frames := 0, cells := 0, slots := 0, locals := 0 })).room s m ([.ref (a 166)] : List Value).toArray below meth cd H locs 0 0 (MQ below (va_Qv (fun (u : MS) => True ∧ xInv u.1 u.2.2.1 ∧ (∀ k, k ∉ ([173] : List Nat) → u.1 k = i k) ∧ (∀ k, k ∉ ([172] : List Nat) → u.2.2.1 k = c k) ∧ (TpR (c 170) (c 171) (i 175) (u.1 173) (u.2.2.1 172))) (oC D A (fun u : MS => xwS sk a t u.1 u.2.1 u.2.2.1 u.2.2.2) (fun _ => [])) A) ([.ref (a 166)] : List Value).toArray s 0 0 A) (F0 m 72 ls []) := by
              intro fu
              induction fu with
              | zero => intro i13 q13 c13 d13 y13_2 y13_1 hI hfi hfc hy13_2 hy13_1 hz13_0 hz13_1 hz13_2 hm; exact absurd hm (Nat.not_lt_zero _)
              | succ fu ih =>
                intro i13 q13 c13 d13 y13_2 y13_1 hI hfi hfc hy13_2 hy13_1 hz13_0 hz13_1 hz13_2 hm H locs ls hP hD hS hl
                have ih13 := ih
                refine lv_iload_n hx hb dX7_tellPlay_72 rfl (lv_at hl 0 rfl) ?_
                refine lv_if_lt (tgt := 105) hx hb dX7_tellPlay_73 (by decide +kernel) (fun c14 => ?_) (fun c14 => ?_)
                · have f14 := (ti_lt (a := y13_2.toInt) (b := 0) rfl (by decide +kernel)).mp c14
                  exact rw_vret (i13, q13, c13, d13) hx hb hr hlocks hS (hK.sub (tys' := []) [] rfl) hP hD dX7_tellPlay_105 ⟨trivial, hI, fr_w hfi (by decide +kernel), fr_w hfc (by decide +kernel), (show TpR (c 170) (c 171) (i 175) ((i13 173) : Int32) (c13 172) from tpE hz13_2 hz13_0 (by omega) (by omega) (by omega))⟩
                · have f14 := mt (ti_lt (a := y13_2.toInt) (b := 0) rfl (by decide +kernel)).mpr c14
                  refine lv_iload_n hx hb dX7_tellPlay_76 rfl (lv_at hl 1 rfl) ?_
                  refine lv_if_le (tgt := 105) hx hb dX7_tellPlay_77 (by decide +kernel) (fun c15 => ?_) (fun c15 => ?_)
                  · have f15 := (ti_le (a := y13_1.toInt) (b := 0) rfl (by decide +kernel)).mp c15
                    exact rw_vret (i13, q13, c13, d13) hx hb hr hlocks hS (hK.sub (tys' := []) [] rfl) hP hD dX7_tellPlay_105 ⟨trivial, hI, fr_w hfi (by decide +kernel), fr_w hfc (by decide +kernel), (show TpR (c 170) (c 171) (i 175) ((i13 173) : Int32) (c13 172) from tpE hz13_2 hz13_0 (by omega) (by omega) (by omega))⟩
                  · have f15 := mt (ti_le (a := y13_1.toInt) (b := 0) rfl (by decide +kernel)).mpr c15
                    refine lv_aload_n hx hb dX7_tellPlay_80 rfl (lv_at hl 2 rfl) ?_
                    refine xgS_S_play hx hb hts (fun _ h => List.mem_cons_of_mem _ (List.mem_append_right _ h)) hown hK hP (hts (.fieldLink RX7 27 "TalePlay$Seeker" "play" "[I") (List.mem_cons_of_mem _ (List.mem_append_left _ (List.mem_of_getElem? (i := 2) rfl)))) dX7_tellPlay_81 ?_
                    refine lv_iload_n hx hb dX7_tellPlay_84 rfl (lv_at hl 0 rfl) ?_
                    refine lv_aload_n hx hb dX7_tellPlay_85 rfl (lv_at hl 2 rfl) ?_
                    refine xgS_S_deeds hx hb hts (fun _ h => List.mem_cons_of_mem _ (List.mem_append_right _ h)) hown hK hP (hts (.fieldLink RX7 24 "TalePlay$Seeker" "deeds" "[I") (List.mem_cons_of_mem _ (List.mem_append_left _ (List.mem_of_getElem? (i := 3) rfl)))) dX7_tellPlay_86 ?_
                    refine lv_iload_n hx hb dX7_tellPlay_89 rfl (lv_at hl 1 rfl) ?_
                    refine xlS_171 hx hb hK hP (vp_in_iff.mpr (by have h9 : y13_1.toInt = y13_1.toInt := rfl; omega)) dX7_tellPlay_90 (fun x16 ex16 => ?_)
                    refine xsS_172 hx hb hK hP hD hS (vp_in_iff.mpr (by have h9 : y13_2.toInt = y13_2.toInt := rfl; omega)) dX7_tellPlay_91 (fun H locs hP hD hS => ?_)
                    have hI := xInv_c hI (k := 172) (j := (y13_2 : Int32).toNatClampNeg) (x := x16) (show True from trivial)
                    have hfc := fr_c hfc (k := 172) (j := (y13_2 : Int32).toNatClampNeg) (x := x16) (by decide +kernel)
                    refine lv_aload_n hx hb dX7_tellPlay_92 rfl (lv_at hl 2 rfl) ?_
                    refine xgS_S_parents hx hb hts (fun _ h => List.mem_cons_of_mem _ (List.mem_append_right _ h)) hown hK hP (hts (.fieldLink RX7 21 "TalePlay$Seeker" "parents" "[I") (List.mem_cons_of_mem _ (List.mem_append_left _ (List.mem_of_getElem? (i := 4) rfl)))) dX7_tellPlay_93 ?_
                    refine lv_iload_n hx hb dX7_tellPlay_96 rfl (lv_at hl 1 rfl) ?_
                    refine xlS_170 hx hb hK hP (vp_in_iff.mpr (by have h9 : y13_1.toInt = y13_1.toInt := rfl; omega)) dX7_tellPlay_97 (fun x17 ex17 => ?_)
                    have rx17 : x17.toInt = -9 ∨ (0 ≤ x17.toInt ∧ x17.toInt ≤ 299) := by rw [ex17]; exact hI.2 170 _
                    refine lv_istore_n (lv' := [(1, .int x17), (2, .int y13_2), (0, .ref (a 166))]) hx hb dX7_tellPlay_98 rfl hl (by decide +kernel) rfl (fun ls hl => ?_)
                    obtain ⟨x18, ex18⟩ : ∃ y : Int32, y = y13_2 + (-1) := ⟨_, rfl⟩
                    have tx18 := ti_add (a := y13_2.toInt) (b := (-1)) ex18 rfl (by decide +kernel) (by omega) (by omega)
                    refine lv_iinc (v := x18) (lv' := [(2, .int x18), (1, .int x17), (0, .ref (a 166))]) hx hb dX7_tellPlay_99 hl (k := 1) rfl (by rw [ex18]; rfl) (by decide +kernel) rfl (fun ls hl => ?_)
                    refine lv_goto (tgt := 72) hx hb dX7_tellPlay_102 (by decide +kernel) ?_
                    exact ih13 i13 q13 (updA c13 172 (y13_2 : Int32).toNatClampNeg x16) d13 x18 x17 hI (fr_w hfi (by decide +kernel)) (fr_w hfc (by decide +kernel)) (show -1 ≤ x18.toInt ∧ x18.toInt ≤ 299 from by have h50 : x18.toInt = (y13_2.toInt + (-1)) := tx18; omega) (show x17.toInt = -9 ∨ (0 ≤ x17.toInt ∧ x17.toInt ≤ 299) from by have h50 : x18.toInt = (y13_2.toInt + (-1)) := tx18; omega) (show PyK (c 170) (c 171) ((updA c13 172 (y13_2 : Int32).toNatClampNeg x16) 172) (i 175).toInt.toNat ((i13 173) : Int32).toInt x18.toInt x17.toInt from PyK_s (x := y13_1) (st := (i 174).toInt) hz13_0 (by omega) (by omega) (by have h9 := hs_F.2; have h8 := hz13_1; omega) hs_F.1 (show x17 = c 170 y13_1.toNatClampNeg from by rw [ex17, show (updA c13 172 (y13_2 : Int32).toNatClampNeg x16) 170 = c 170 from hfc 170 (by decide +kernel)]) (show x16 = c 171 y13_1.toNatClampNeg from by rw [ex16, show c13 171 = c 171 from hfc 171 (by decide +kernel)]) (by have h9 : x18.toInt = (y13_2.toInt + (-1)) := tx18; omega)) (show x17.toInt ≤ (i 175).toInt from by have h9 := hs_F.1 y13_1.toNatClampNeg (by have h7 : y13_1.toNatClampNeg = y13_1.toInt.toNat := rfl; omega) (by have h7 : y13_1.toNatClampNeg = y13_1.toInt.toNat := rfl; have h6 := hs_F.2; have h5 := hz13_1; omega); rw [← (show x17 = c 170 y13_1.toNatClampNeg from by rw [ex17, show (updA c13 172 (y13_2 : Int32).toNatClampNeg x16) 170 = c 170 from hfc 170 (by decide +kernel)])] at h9; have h8 := hz13_1; have h7 : y13_1.toNatClampNeg = y13_1.toInt.toNat := rfl; omega) (show ApK (c 170) (i 175).toInt.toNat ((i13 173) : Int32).toInt 0 from hz13_2) (by have h50 : x18.toInt = (y13_2.toInt + (-1)) := tx18; omega) _ _ _ hP hD hS (lv_sub hl [0, 1, 2] rfl)
            exact lp13 _ i2 q2 c2 d2 x12 (i2 175) hI (fr_w hfi (by decide +kernel)) (fr_w hfc (by decide +kernel)) (show -1 ≤ x12.toInt ∧ x12.toInt ≤ 299 from by have h50 : x12.toInt = ((i2 173).toInt - 1) := tx12; omega) (show (i2 175).toInt = -9 ∨ (0 ≤ (i2 175).toInt ∧ (i2 175).toInt ≤ 299) from by have h50 : x12.toInt = ((i2 173).toInt - 1) := tx12; omega) (show PyK (c 170) (c 171) (c2 172) (i 175).toInt.toNat ((i2 173) : Int32).toInt x12.toInt (i2 175).toInt from by rw [show i2 175 = i 175 from hfi 175 (by decide +kernel)]; exact PyK_0 (f := (i 175)) (by omega) (by omega) (by have h9 : x12.toInt = ((i2 173).toInt - 1) := tx12; omega)) (show (i2 175).toInt ≤ (i 175).toInt from by rw [show i2 175 = i 175 from hfi 175 (by decide +kernel)]; exact Int.le_refl _) (show ApK (c 170) (i 175).toInt.toNat ((i2 173) : Int32).toInt 0 from by have h9 := hz2_1; have h8 := h9.2.2.1; have h7 := h9.2.1; rw [show y2_1.toInt = 0 by omega] at h9; exact h9) (Nat.lt_succ_self _) _ _ _ hP hD hS (lv_sub hl [0, 1, 2] rfl)
          · have f11 := mt (ti_le (a := 300) (b := (i2 173).toInt) (by decide +kernel) rfl).mpr c11
            refine lv_aload_n hx hb dX7_tellPlay_40 rfl (lv_at hl 1 rfl) ?_
            refine lv_dup hx hb dX7_tellPlay_41 rfl ?_
            refine xgS_S_playLength (v := (i2 173)) rfl hx hb hts (fun _ h => List.mem_cons_of_mem _ (List.mem_append_right _ h)) hown hK hP (hts (.fieldLink RX7 61 "TalePlay$Seeker" "playLength" "I") (List.mem_cons_of_mem _ (List.mem_append_left _ (List.mem_of_getElem? (i := 1) rfl)))) dX7_tellPlay_42 ?_
            refine lv_iconst (v := 1) hx hb dX7_tellPlay_45 (by decide +kernel) ?_
            refine lv_iadd hx hb dX7_tellPlay_46 ?_
            refine lv_topi (fun x19 ex19 => ?_)
            have tx19 := ti_add (a := (i2 173).toInt) (b := 1) ex19 rfl (by decide +kernel) (by omega) (by omega)
            refine xpS_S_playLength hx hb hts (fun _ h => List.mem_cons_of_mem _ (List.mem_append_right _ h)) hown hK hP hD hS (hts (.fieldLink RX7 61 "TalePlay$Seeker" "playLength" "I") (List.mem_cons_of_mem _ (List.mem_append_left _ (List.mem_of_getElem? (i := 1) rfl)))) rfl rfl dX7_tellPlay_47 (fun H locs hP hD hS => ?_)
            have hI := xInv_i hI (k := 173) (v := x19) (show (x19 : Int32).toInt = -9 ∨ (0 ≤ (x19 : Int32).toInt ∧ (x19 : Int32).toInt ≤ 300) from by have h9 : x19.toInt = ((i2 173).toInt + 1) := tx19; omega)
            have hfi := fr_i hfi (k := 173) (v := x19) (by decide +kernel)
            refine lv_aload_n hx hb dX7_tellPlay_50 rfl (lv_at hl 1 rfl) ?_
            refine xgS_S_parents hx hb hts (fun _ h => List.mem_cons_of_mem _ (List.mem_append_right _ h)) hown hK hP (hts (.fieldLink RX7 21 "TalePlay$Seeker" "parents" "[I") (List.mem_cons_of_mem _ (List.mem_append_left _ (List.mem_of_getElem? (i := 4) rfl)))) dX7_tellPlay_51 ?_
            refine lv_iload_n hx hb dX7_tellPlay_54 rfl (lv_at hl 0 rfl) ?_
            refine xlS_170 hx hb hK hP (vp_in_iff.mpr (by have h9 : y2_1.toInt = y2_1.toInt := rfl; omega)) dX7_tellPlay_55 (fun x20 ex20 => ?_)
            have rx20 : x20.toInt = -9 ∨ (0 ≤ x20.toInt ∧ x20.toInt ≤ 299) := by rw [ex20]; exact hI.2 170 _
            refine lv_istore_n (lv' := [(1, .int x20), (0, .ref (a 166))]) hx hb dX7_tellPlay_56 rfl hl (by decide +kernel) rfl (fun ls hl => ?_)
            refine lv_goto (tgt := 26) hx hb dX7_tellPlay_57 (by decide +kernel) ?_
            exact ih2 (upd i2 173 x19) q2 c2 d2 x20 hI (fr_w hfi (by decide +kernel)) (fr_w hfc (by decide +kernel)) (show x20.toInt = -9 ∨ (0 ≤ x20.toInt ∧ x20.toInt ≤ 299) from by have h60 : x19.toInt = ((i2 173).toInt + 1) := tx19; omega) (show 0 ≤ (x19 : Int32).toInt from by have h60 : x19.toInt = ((i2 173).toInt + 1) := tx19; omega) (show ApK (c 170) (i 175).toInt.toNat (x19 : Int32).toInt x20.toInt from ApK_s (x := y2_1) (st := (i 174).toInt) hz2_1 (by omega) (by have h9 := hz2_1.2.2.1; have h8 := hs_F.2; omega) hs_F.1 (show x20 = c 170 y2_1.toNatClampNeg from by rw [ex20, show c2 170 = c 170 from hfc 170 (by decide +kernel)]) tx19) (by show (300 - (x19 : Int32).toInt).toNat < _; have h9 : x19.toInt = ((i2 173).toInt + 1) := tx19; omega) _ _ _ hP hD hS (lv_sub hl [0, 1] rfl)
    exact lp2 _ (upd i 173 0) q c d (i 175) hI (fr_w hfi (by decide +kernel)) (fr_w hfc (by decide +kernel)) (show (i 175).toInt = -9 ∨ (0 ≤ (i 175).toInt ∧ (i 175).toInt ≤ 299) from by have h60 : (0 : Int32).toInt = 0 := (by decide +kernel); omega) (show 0 ≤ (0 : Int32).toInt from by decide +kernel) (show ApK (c 170) (i 175).toInt.toNat (0 : Int32).toInt (i 175).toInt from ApK_0 (f := (i 175)) (by decide +kernel) (by omega)) (Nat.lt_succ_self _) _ _ _ hP hD hS (lv_sub hl [0, 1] rfl)
  · have f1 := (ti_eq (a := (i 175).toInt) (b := (-9)) rfl (by decide +kernel)).mp c1
    refine lv_aload_n hx hb dX7_tellPlay_9 rfl (lv_at hl 0 rfl) ?_
    refine lv_bipush (v := (-9)) hx hb dX7_tellPlay_10 (by decide +kernel) ?_
    refine xpS_S_playLength hx hb hts (fun _ h => List.mem_cons_of_mem _ (List.mem_append_right _ h)) hown hK hP hD hS (hts (.fieldLink RX7 61 "TalePlay$Seeker" "playLength" "I") (List.mem_cons_of_mem _ (List.mem_append_left _ (List.mem_of_getElem? (i := 1) rfl)))) rfl rfl dX7_tellPlay_12 (fun H locs hP hD hS => ?_)
    have hI := xInv_i hI (k := 173) (v := (-9)) (show ((-9) : Int32).toInt = -9 ∨ (0 ≤ ((-9) : Int32).toInt ∧ ((-9) : Int32).toInt ≤ 300) from by decide +kernel)
    have hfi : ∀ k, k ∉ ([173] : List Nat) → (upd i 173 (-9)) k = i k := fr_iz hfi (by decide +kernel) (by decide +kernel)
    exact rw_vret ((upd i 173 (-9)), q, c, d) hx hb hr hlocks hS (hK.sub (tys' := []) [] rfl) hP hD dX7_tellPlay_15 ⟨trivial, hI, fr_w hfi (by decide +kernel), fr_w hfc (by decide +kernel), (show TpR (c 170) (c 171) (i 175) ((-9) : Int32) (c 172) from Or.inl ⟨by omega, by show ((-9) : Int32).toInt = -9; decide⟩)⟩

