def LB (w s1 n1 : Int32) (ob : Int) : Prop := ¬ (0 ≤ w.toInt ∧ w.toInt < ob ∧ 0 ≤ s1.toInt ∧ s1.toInt ≤ 3 ∧ 0 ≤ n1.toInt ∧ n1.toInt ≤ 12)
def LU (a b a2 b2 : Nat → Int32) (w s1 n1 : Int32) (ob : Int) : Prop := (LB w s1 n1 ob ∧ a2 = a ∧ b2 = b) ∨ (¬ LB w s1 n1 ob ∧ a2 = upd a w.toNatClampNeg s1 ∧ b2 = upd b w.toNatClampNeg n1)
def LV (a b c a2 b2 c2 : Nat → Int32) (w s1 n1 : Int32) (ob : Int) : Prop := (LB w s1 n1 ob ∧ a2 = a ∧ b2 = b ∧ c2 = c) ∨ (¬ LB w s1 n1 ob ∧ a2 = upd a w.toNatClampNeg 1 ∧ b2 = upd b w.toNatClampNeg s1 ∧ c2 = upd c w.toNatClampNeg n1)

def wm_X4_lay_eQ : List Cond := .code yX4_lay cX4_lay 5 none :: (([.fieldLink RX4 9 "TalePlay$Lines" "sorts" "[I", .fieldLink RX4 15 "TalePlay$Lines" "lengths" "[I", .fieldLink RX4 18 "TalePlay$Lines" "items" "[J"] : List Cond) ++ wsX40)
set_option maxHeartbeats 4000000 in
set_option maxRecDepth 100000 in
theorem x_X4_lay_eQ (l : Launch) (D : va_G) (sz : Nat) (sk : Value) (a : Nat → Nat) (t : Nat → ClassId) (i : Nat → Int32) (q : Int64) (c : Nat → Nat → Int32) (d : Nat → Nat → Int64) (w : Int32) (s1 : Int32) (n1 : Int32) (hI : xInv i c) (hw : 0 ≤ w.toInt ∧ w.toInt ≤ 29) (hs1 : 0 ≤ s1.toInt ∧ s1.toInt ≤ 3) (hn1 : 0 ≤ n1.toInt ∧ n1.toInt ≤ 12) : Met l yX4_lay wm_X4_lay_eQ ({ frames := 0, cells := 0, slots := 0, locals := 0 }) (va_Pc [.ref (a 157), .int w, .int s1, .int n1] (yB (a 186) D sz (xwT sk a t i q c d) (xtT t))) (va_Qv (fun (u : MS) => True ∧ xInv u.1 u.2.2.1 ∧ (∀ k, k ∉ ([] : List Nat) → u.1 k = i k) ∧ (∀ k, k ∉ ([158, 159] : List Nat) → u.2.2.1 k = c k) ∧ ((u.2.2.1 158) = upd (c 158) w.toNatClampNeg s1) ∧ ((u.2.2.1 159) = upd (c 159) w.toNatClampNeg n1) ∧ (LzK (d 160) (u.2.2.2 160) w.toInt 12) ∧ (q = u.2.1)) (oC D (va_A (xwT sk a t i q c d) sz) (fun u : MS => xwT sk a t u.1 u.2.1 u.2.2.1 u.2.2.2) (fun _ => [])) (va_A (xwT sk a t i q c d) sz)) 0 0 (va_A (xwT sk a t i q c d) sz) := by
  refine Met.ofW (cc := cX4_lay) (maxL := 5) (ret := none) (by decide +kernel) rfl ?_
  intro p e s m args below meth cd s₁ B hml hv
  obtain ⟨rfl, ⟨hsz, hP, hK, hD0⟩, hN, hZ, hBW⟩ := hv
  have hx := B.exec
  have hb := B.bytes
  have hr := B.returns
  have hts := atoms_spec (ws := wm_X4_lay_eQ) B.pre
  have hown : s.vm.findClass RX4 = some m.cls := findClass_of_methodNamed B.named
  have hlocks := B.notSynchronized
  subst hsz
  have hD := hD0.self (sz := s.heap.size)
  have hZ := xZ_A hZ hP hBW
  generalize hAe : va_A (xwT sk a t i q c d) s.heap.size = A at hD hZ ⊢
  have hA : ∀ q : Nat, s.heap.size ≤ q → A q := fun q h => by rw [← hAe]; exact Or.inr h
  have hS : va_S A s.heap s.heap [] := va_S.rf
  have hfi : ∀ k, k ∉ ([] : List Nat) → i k = i k := fun _ _ => rfl
  have hfc : ∀ k, k ∉ ([] : List Nat) → c k = c k := fun _ _ => rfl
  have hl := lv_entry ([.ref (a 157), .int w, .int s1, .int n1]) (n := 5) (Nat.le_of_ble_eq_true rfl)
  rw [lg_entry_eq]
  generalize (lg_sl ([.ref (a 157), .int w, .int s1, .int n1]) ++ List.replicate (5 - (lg_sl ([.ref (a 157), .int w, .int s1, .int n1])).length) Slot.unset).toArray = ls at hl ⊢
  have hl : lv_has ls 5 [(0, .ref (a 157)), (1, .int w), (2, .int s1), (3, .int n1)] := hl
  refine lv_aload_n hx hb dX4_lay_0 rfl (lv_at hl 0 rfl) ?_
  refine xgT_L_sorts hx hb hts (fun _ h => List.mem_cons_of_mem _ (List.mem_append_right _ h)) hown hK hP (hts (.fieldLink RX4 9 "TalePlay$Lines" "sorts" "[I") (List.mem_cons_of_mem _ (List.mem_append_left _ (List.mem_of_getElem? (i := 0) rfl)))) dX4_lay_1 ?_
  refine lv_iload_n hx hb dX4_lay_4 rfl (lv_at hl 1 rfl) ?_
  refine lv_iload_n hx hb dX4_lay_5 rfl (lv_at hl 2 rfl) ?_
  refine xsT_158 hx hb hK hP hD hS (vp_in_iff.mpr (by have h9 : w.toInt = w.toInt := rfl; omega)) dX4_lay_6 (fun H locs hP hD hS => ?_)
  have hI := xInv_c hI (k := 158) (j := (w : Int32).toNatClampNeg) (x := s1) (show (s1 : Int32).toInt = -9 ∨ (0 ≤ (s1 : Int32).toInt ∧ (s1 : Int32).toInt ≤ 3) from by omega)
  have hfc : ∀ k, k ∉ ([158] : List Nat) → (updA c 158 (w : Int32).toNatClampNeg s1) k = c k := fr_cz hfc (by decide +kernel) (by decide +kernel)
  refine lv_aload_n hx hb dX4_lay_7 rfl (lv_at hl 0 rfl) ?_
  refine xgT_L_lengths hx hb hts (fun _ h => List.mem_cons_of_mem _ (List.mem_append_right _ h)) hown hK hP (hts (.fieldLink RX4 15 "TalePlay$Lines" "lengths" "[I") (List.mem_cons_of_mem _ (List.mem_append_left _ (List.mem_of_getElem? (i := 1) rfl)))) dX4_lay_8 ?_
  refine lv_iload_n hx hb dX4_lay_11 rfl (lv_at hl 1 rfl) ?_
  refine lv_iload_n hx hb dX4_lay_12 rfl (lv_at hl 3 rfl) ?_
  refine xsT_159 hx hb hK hP hD hS (vp_in_iff.mpr (by have h9 : w.toInt = w.toInt := rfl; omega)) dX4_lay_13 (fun H locs hP hD hS => ?_)
  have hI := xInv_c hI (k := 159) (j := (w : Int32).toNatClampNeg) (x := n1) (show 0 ≤ (n1 : Int32).toInt ∧ (n1 : Int32).toInt ≤ 12 from by omega)
  have hfc : ∀ k, k ∉ ([158, 159] : List Nat) → (updA (updA c 158 (w : Int32).toNatClampNeg s1) 159 (w : Int32).toNatClampNeg n1) k = c k := fr_cz hfc (by decide +kernel) (by decide +kernel)
  refine lv_iconst (v := 0) hx hb dX4_lay_14 (by decide +kernel) ?_
  refine lv_istore (lv' := [(4, .int 0), (0, .ref (a 157)), (1, .int w), (2, .int s1), (3, .int n1)]) hx hb dX4_lay_15 hl (by decide +kernel) rfl (fun ls hl => ?_)
  have lp1 : ∀ (fu : Nat) (i1 : Nat → Int32) (c1 : Nat → Nat → Int32) (d1 : Nat → Nat → Int64) (y1_4 : Int32), xInv i1 c1 → (∀ k, k ∉ ([] : List Nat) → i1 k = i k) → (∀ k, k ∉ ([158, 159] : List Nat) → c1 k = c k) → (0 ≤ y1_4.toInt ∧ y1_4.toInt ≤ 12) → ((c1 158) = upd (c 158) w.toNatClampNeg s1) → ((c1 159) = upd (c 159) w.toNatClampNeg n1) → (LzK (d 160) (d1 160) w.toInt y1_4.toInt) → (12 - y1_4.toInt).toNat < fu → ∀ (H : Heap) (locs : List Loc) (ls : Array Slot), va_P D vwCl (xwT sk a t i1 q c1 d1) H → va_D A (xwT sk a t i1 q c1 d1) → va_S A s.heap H locs → lv_has ls 5 [(4, .int y1_4), (0, .ref (a 157)), (1, .int w), (2, .int s1), (3, .int n1)] → W p l e (headSpec wm_X4_lay_eQ ({ frames := 0, cells := 0, slots := 0, locals := 0 })).room s m ([.ref (a 157), .int w, .int s1, .int n1] : List Value).toArray below meth cd H locs 0 0 (MQ below (va_Qv (fun (u : MS) => True ∧ xInv u.1 u.2.2.1 ∧ (∀ k, k ∉ ([] : List Nat) → u.1 k = i k) ∧ (∀ k, k ∉ ([158, 159] : List Nat) → u.2.2.1 k = c k) ∧ ((u.2.2.1 158) = upd (c 158) w.toNatClampNeg s1) ∧ ((u.2.2.1 159) = upd (c 159) w.toNatClampNeg n1) ∧ (LzK (d 160) (u.2.2.2 160) w.toInt 12) ∧ (q = u.2.1)) (oC D A (fun u : MS => xwT sk a t u.1 u.2.1 u.2.2.1 u.2.2.2) (fun _ => [])) A) ([.ref (a 157), .int w, .int s1, .int n1] : List Value).toArray s 0 0 A) (F0 m 17 ls []) := by
    intro fu
    induction fu with
    | zero => intro i1 c1 d1 y1_4 hI hfi hfc hy1_4 hz1_0 hz1_1 hz1_2 hm; exact absurd hm (Nat.not_lt_zero _)
    | succ fu ih =>
      intro i1 c1 d1 y1_4 hI hfi hfc hy1_4 hz1_0 hz1_1 hz1_2 hm H locs ls hP hD hS hl
      have ih1 := ih
      refine lv_iload hx hb dX4_lay_17 (lv_at hl 0 rfl) ?_
      refine lv_bipush (v := 12) hx hb dX4_lay_19 (by decide +kernel) ?_
      refine lv_icmp_ge (tgt := 43) hx hb dX4_lay_21 (by decide +kernel) (fun c2 => ?_) (fun c2 => ?_)
      · have f2 := (ti_le (a := 12) (b := y1_4.toInt) (by decide +kernel) rfl).mp c2
        exact rw_vret (i1, q, c1, d1) hx hb hr hlocks hS (hK.sub (tys' := []) [] rfl) hP hD dX4_lay_43 ⟨trivial, hI, fr_w hfi (by decide +kernel), fr_w hfc (by decide +kernel), (show (c1 158) = upd (c 158) w.toNatClampNeg s1 from hz1_0), (show (c1 159) = upd (c 159) w.toNatClampNeg n1 from hz1_1), (show LzK (d 160) (d1 160) w.toInt 12 from by rw [show (12 : Int) = y1_4.toInt by omega]; exact hz1_2), rfl⟩
      · have f2 := mt (ti_le (a := 12) (b := y1_4.toInt) (by decide +kernel) rfl).mpr c2
        refine lv_aload_n hx hb dX4_lay_24 rfl (lv_at hl 1 rfl) ?_
        refine xgT_L_items hx hb hts (fun _ h => List.mem_cons_of_mem _ (List.mem_append_right _ h)) hown hK hP (hts (.fieldLink RX4 18 "TalePlay$Lines" "items" "[J") (List.mem_cons_of_mem _ (List.mem_append_left _ (List.mem_of_getElem? (i := 2) rfl)))) dX4_lay_25 ?_
        refine lv_iload_n hx hb dX4_lay_28 rfl (lv_at hl 2 rfl) ?_
        refine lv_bipush (v := 12) hx hb dX4_lay_29 (by decide +kernel) ?_
        refine lv_imul hx hb dX4_lay_31 ?_
        refine lv_topi (fun x3 ex3 => ?_)
        have tx3 := ti_mul (a := w.toInt) (b := 12) ex3 rfl (by decide +kernel) (by omega) (by omega)
        refine lv_iload hx hb dX4_lay_32 (lv_at hl 0 rfl) ?_
        refine lv_iadd hx hb dX4_lay_34 ?_
        refine lv_topi (fun x4 ex4 => ?_)
        have tx4 := ti_add (a := (w.toInt * 12)) (b := y1_4.toInt) ex4 tx3 rfl (by omega) (by omega)
        refine lv_lconst (v := 0) hx hb dX4_lay_35 (by decide +kernel) ?_
        refine xsT_160 hx hb hK hP hD hS (vp_in_iff.mpr (by have h9 : x4.toInt = ((w.toInt * 12) + y1_4.toInt) := tx4; omega)) dX4_lay_36 (fun H locs hP hD hS => ?_)
        obtain ⟨x5, ex5⟩ : ∃ y : Int32, y = y1_4 + 1 := ⟨_, rfl⟩
        have tx5 := ti_add (a := y1_4.toInt) (b := 1) ex5 rfl (by decide +kernel) (by omega) (by omega)
        refine lv_iinc (v := x5) (lv' := [(4, .int x5), (0, .ref (a 157)), (1, .int w), (2, .int s1), (3, .int n1)]) hx hb dX4_lay_37 hl (k := 0) rfl (by rw [ex5]; rfl) (by decide +kernel) rfl (fun ls hl => ?_)
        refine lv_goto (tgt := 17) hx hb dX4_lay_40 (by decide +kernel) ?_
        exact ih1 i1 c1 (updD d1 160 (x4 : Int32).toNatClampNeg 0) x5 hI (fr_w hfi (by decide +kernel)) (fr_w hfc (by decide +kernel)) (show 0 ≤ x5.toInt ∧ x5.toInt ≤ 12 from by have h50 : x5.toInt = (y1_4.toInt + 1) := tx5; omega) (show (c1 158) = upd (c 158) w.toNatClampNeg s1 from hz1_0) (show (c1 159) = upd (c 159) w.toNatClampNeg n1 from hz1_1) (show LzK (d 160) ((updD d1 160 (x4 : Int32).toNatClampNeg 0) 160) w.toInt x5.toInt from LzK_s (x := y1_4) (z := x4) hz1_2 (by omega) (by omega) tx5 (by have h9 : x4.toInt = ((w.toInt * 12) + y1_4.toInt) := tx4; omega) rfl) (by have h50 : x5.toInt = (y1_4.toInt + 1) := tx5; omega) _ _ _ hP hD hS (lv_sub hl [0, 1, 2, 3, 4] rfl)
  exact lp1 _ i (updA (updA c 158 (w : Int32).toNatClampNeg s1) 159 (w : Int32).toNatClampNeg n1) d (0 : Int32) hI (fr_w hfi (by decide +kernel)) (fr_w hfc (by decide +kernel)) (show 0 ≤ (0 : Int32).toInt ∧ (0 : Int32).toInt ≤ 12 from by have h50 : (0 : Int32).toInt = 0 := (by decide +kernel); omega) (show ((updA (updA c 158 (w : Int32).toNatClampNeg s1) 159 (w : Int32).toNatClampNeg n1) 158) = upd (c 158) w.toNatClampNeg s1 from rfl) (show ((updA (updA c 158 (w : Int32).toNatClampNeg s1) 159 (w : Int32).toNatClampNeg n1) 159) = upd (c 159) w.toNatClampNeg n1 from rfl) (show LzK (d 160) (d 160) w.toInt (0 : Int32).toInt from LzK_0) (Nat.lt_succ_self _) _ _ _ hP hD hS (lv_sub hl [0, 1, 2, 3, 4] rfl)

def wm_X11_line_eQ : List Cond := .code yX11_line cX11_line 4 (some .int) :: ((([.fieldLink RX11 10 "TalePlay" "world" "LTalePlay$World;", .methodLink RX11 109 yX10_hasObject, .instanceMethod yX10_hasObject, .selects RX10 yX10_hasObject yX10_hasObject, .initialized RX10, .code yX10_hasObject cX10_hasObject 2 (some .boolean), .fieldLink RX10 37 "TalePlay$World" "objects" "I", .methodLink RX11 91 yX11_isBelow, .static yX11_isBelow, .initialized RX11, .code yX11_isBelow cX11_isBelow 2 (some .boolean), .fieldLink RX11 53 "TalePlay" "lines" "LTalePlay$Lines;", .methodLink RX11 304 yX4_lay, .instanceMethod yX4_lay, .selects RX4 yX4_lay yX4_lay, .initialized RX4] : List Cond) ++ ([.code yX4_lay cX4_lay 5 none, .fieldLink RX4 9 "TalePlay$Lines" "sorts" "[I", .fieldLink RX4 15 "TalePlay$Lines" "lengths" "[I", .fieldLink RX4 18 "TalePlay$Lines" "items" "[J", .methodLink RX11 128 yX11_answerFinding, .instanceMethod yX11_answerFinding, .selects RX11 yX11_answerFinding yX11_answerFinding, .code yX11_answerFinding cX11_answerFinding 2 (some .int), .fieldLink RX11 72 "TalePlay" "latestFinding" "I", .fieldLink RX11 68 "TalePlay" "findingCounts" "[I"] : List Cond)) ++ wsX110 ++ wsX100 ++ wsX40)
set_option maxRecDepth 20000 in
theorem gm_X11_line_eQ_X10_hasObject_109 : GoodIn wm_X11_line_eQ (wsV RX11 109 RX10 yX10_hasObject wm_X10_hasObject) := goodIn_w (List.forall_mem_append.mpr ⟨List.forall_mem_cons.mpr ⟨List.mem_cons_of_mem _ (List.mem_append_left _ (List.mem_append_left _ (List.mem_append_left _ (List.mem_append_left _ (List.mem_of_getElem? (i := 1) rfl))))), List.forall_mem_cons.mpr ⟨List.mem_cons_of_mem _ (List.mem_append_left _ (List.mem_append_left _ (List.mem_append_left _ (List.mem_append_left _ (List.mem_of_getElem? (i := 2) rfl))))), List.forall_mem_cons.mpr ⟨List.mem_cons_of_mem _ (List.mem_append_left _ (List.mem_append_left _ (List.mem_append_left _ (List.mem_append_left _ (List.mem_of_getElem? (i := 3) rfl))))), List.forall_mem_cons.mpr ⟨List.mem_cons_of_mem _ (List.mem_append_left _ (List.mem_append_left _ (List.mem_append_left _ (List.mem_append_left _ (List.mem_of_getElem? (i := 4) rfl))))), (fun _ h => absurd h List.not_mem_nil)⟩⟩⟩⟩, List.forall_mem_cons.mpr ⟨List.mem_cons_of_mem _ (List.mem_append_left _ (List.mem_append_left _ (List.mem_append_left _ (List.mem_append_left _ (List.mem_of_getElem? (i := 5) rfl))))), List.forall_mem_append.mpr ⟨List.forall_mem_cons.mpr ⟨List.mem_cons_of_mem _ (List.mem_append_left _ (List.mem_append_left _ (List.mem_append_left _ (List.mem_append_left _ (List.mem_of_getElem? (i := 6) rfl))))), (fun _ h => absurd h List.not_mem_nil)⟩, (fun _ h => List.mem_cons_of_mem _ (List.mem_append_left _ (List.mem_append_right _ h)))⟩⟩⟩) (by decide +kernel)
set_option maxRecDepth 20000 in
theorem gm_X11_line_eQ_X11_isBelow_91 : GoodIn wm_X11_line_eQ (va_wsS RX11 91 yX11_isBelow wm_X11_isBelow) := goodIn_w (List.forall_mem_append.mpr ⟨List.forall_mem_cons.mpr ⟨List.mem_cons_of_mem _ (List.mem_append_left _ (List.mem_append_left _ (List.mem_append_left _ (List.mem_append_left _ (List.mem_of_getElem? (i := 7) rfl))))), List.forall_mem_cons.mpr ⟨List.mem_cons_of_mem _ (List.mem_append_left _ (List.mem_append_left _ (List.mem_append_left _ (List.mem_append_left _ (List.mem_of_getElem? (i := 8) rfl))))), List.forall_mem_cons.mpr ⟨List.mem_cons_of_mem _ (List.mem_append_left _ (List.mem_append_left _ (List.mem_append_left _ (List.mem_append_left _ (List.mem_of_getElem? (i := 9) rfl))))), (fun _ h => absurd h List.not_mem_nil)⟩⟩⟩, List.forall_mem_cons.mpr ⟨List.mem_cons_of_mem _ (List.mem_append_left _ (List.mem_append_left _ (List.mem_append_left _ (List.mem_append_left _ (List.mem_of_getElem? (i := 10) rfl))))), (fun _ h => absurd h List.not_mem_nil)⟩⟩) (by decide +kernel)
set_option maxRecDepth 20000 in
theorem gm_X11_line_eQ_X4_lay_eQ_304 : GoodIn wm_X11_line_eQ (wsV RX11 304 RX4 yX4_lay wm_X4_lay_eQ) := goodIn_w (List.forall_mem_append.mpr ⟨List.forall_mem_cons.mpr ⟨List.mem_cons_of_mem _ (List.mem_append_left _ (List.mem_append_left _ (List.mem_append_left _ (List.mem_append_left _ (List.mem_of_getElem? (i := 12) rfl))))), List.forall_mem_cons.mpr ⟨List.mem_cons_of_mem _ (List.mem_append_left _ (List.mem_append_left _ (List.mem_append_left _ (List.mem_append_left _ (List.mem_of_getElem? (i := 13) rfl))))), List.forall_mem_cons.mpr ⟨List.mem_cons_of_mem _ (List.mem_append_left _ (List.mem_append_left _ (List.mem_append_left _ (List.mem_append_left _ (List.mem_of_getElem? (i := 14) rfl))))), List.forall_mem_cons.mpr ⟨List.mem_cons_of_mem _ (List.mem_append_left _ (List.mem_append_left _ (List.mem_append_left _ (List.mem_append_left _ (List.mem_of_getElem? (i := 15) rfl))))), (fun _ h => absurd h List.not_mem_nil)⟩⟩⟩⟩, List.forall_mem_cons.mpr ⟨List.mem_cons_of_mem _ (List.mem_append_left _ (List.mem_append_left _ (List.mem_append_left _ (List.mem_append_right _ (List.mem_of_getElem? (i := 0) rfl))))), List.forall_mem_append.mpr ⟨List.forall_mem_cons.mpr ⟨List.mem_cons_of_mem _ (List.mem_append_left _ (List.mem_append_left _ (List.mem_append_left _ (List.mem_append_right _ (List.mem_of_getElem? (i := 1) rfl))))), List.forall_mem_cons.mpr ⟨List.mem_cons_of_mem _ (List.mem_append_left _ (List.mem_append_left _ (List.mem_append_left _ (List.mem_append_right _ (List.mem_of_getElem? (i := 2) rfl))))), List.forall_mem_cons.mpr ⟨List.mem_cons_of_mem _ (List.mem_append_left _ (List.mem_append_left _ (List.mem_append_left _ (List.mem_append_right _ (List.mem_of_getElem? (i := 3) rfl))))), (fun _ h => absurd h List.not_mem_nil)⟩⟩⟩, (fun _ h => List.mem_cons_of_mem _ (List.mem_append_right _ h))⟩⟩⟩) (by decide +kernel)
set_option maxRecDepth 20000 in
theorem gm_X11_line_eQ_X11_answerFinding_128 : GoodIn wm_X11_line_eQ (wsV RX11 128 RX11 yX11_answerFinding wm_X11_answerFinding) := goodIn_w (List.forall_mem_append.mpr ⟨List.forall_mem_cons.mpr ⟨List.mem_cons_of_mem _ (List.mem_append_left _ (List.mem_append_left _ (List.mem_append_left _ (List.mem_append_right _ (List.mem_of_getElem? (i := 4) rfl))))), List.forall_mem_cons.mpr ⟨List.mem_cons_of_mem _ (List.mem_append_left _ (List.mem_append_left _ (List.mem_append_left _ (List.mem_append_right _ (List.mem_of_getElem? (i := 5) rfl))))), List.forall_mem_cons.mpr ⟨List.mem_cons_of_mem _ (List.mem_append_left _ (List.mem_append_left _ (List.mem_append_left _ (List.mem_append_right _ (List.mem_of_getElem? (i := 6) rfl))))), List.forall_mem_cons.mpr ⟨List.mem_cons_of_mem _ (List.mem_append_left _ (List.mem_append_left _ (List.mem_append_left _ (List.mem_append_left _ (List.mem_of_getElem? (i := 9) rfl))))), (fun _ h => absurd h List.not_mem_nil)⟩⟩⟩⟩, List.forall_mem_cons.mpr ⟨List.mem_cons_of_mem _ (List.mem_append_left _ (List.mem_append_left _ (List.mem_append_left _ (List.mem_append_right _ (List.mem_of_getElem? (i := 7) rfl))))), List.forall_mem_append.mpr ⟨List.forall_mem_cons.mpr ⟨List.mem_cons_of_mem _ (List.mem_append_left _ (List.mem_append_left _ (List.mem_append_left _ (List.mem_append_right _ (List.mem_of_getElem? (i := 8) rfl))))), List.forall_mem_cons.mpr ⟨List.mem_cons_of_mem _ (List.mem_append_left _ (List.mem_append_left _ (List.mem_append_left _ (List.mem_append_right _ (List.mem_of_getElem? (i := 9) rfl))))), (fun _ h => absurd h List.not_mem_nil)⟩⟩, (fun _ h => List.mem_cons_of_mem _ (List.mem_append_left _ (List.mem_append_left _ (List.mem_append_right _ h))))⟩⟩⟩) (by decide +kernel)
set_option maxHeartbeats 4000000 in
set_option maxRecDepth 100000 in
theorem x_X11_line_eQ (l : Launch) (D : va_G) (sz : Nat) (sk : Value) (a : Nat → Nat) (t : Nat → ClassId) (i : Nat → Int32) (q : Int64) (c : Nat → Nat → Int32) (d : Nat → Nat → Int64) (w : Int32) (s1 : Int32) (n1 : Int32) (hI : xInv i c) : Met l yX11_line wm_X11_line_eQ ({ frames := 1, cells := 0, slots := 0, locals := 24 }) (va_Pc [.ref (a 100), .int w, .int s1, .int n1] (yB (a 186) D sz (xwT sk a t i q c d) (xtT t))) (va_Qi (fun (r : Int32) (u : MS) => True ∧ xInv u.1 u.2.2.1 ∧ (∀ k, k ∉ ([102] : List Nat) → u.1 k = i k) ∧ (∀ k, k ∉ ([101, 158, 159] : List Nat) → u.2.2.1 k = c k) ∧ ((¬ (0 ≤ w.toInt ∧ w.toInt < (i 111).toInt ∧ 0 ≤ s1.toInt ∧ s1.toInt ≤ 3 ∧ n1.toInt ≤ 12) ∧ r.toInt = -1) ∨ (0 ≤ w.toInt ∧ w.toInt < (i 111).toInt ∧ 0 ≤ s1.toInt ∧ s1.toInt ≤ 3 ∧ n1.toInt ≤ 12 ∧ n1.toInt < 0 ∧ r.toInt = -3) ∨ (0 ≤ w.toInt ∧ w.toInt < (i 111).toInt ∧ 0 ≤ s1.toInt ∧ s1.toInt ≤ 3 ∧ n1.toInt ≤ 12 ∧ 0 ≤ n1.toInt ∧ r.toInt = n1.toInt)) ∧ (LU (c 158) (c 159) (u.2.2.1 158) (u.2.2.1 159) w s1 n1 (i 111).toInt) ∧ (LzR (LB w s1 n1 (i 111).toInt) (d 160) (u.2.2.2 160) w.toInt) ∧ (q = u.2.1)) (oC D (va_A (xwT sk a t i q c d) sz) (fun u : MS => xwT sk a t u.1 u.2.1 u.2.2.1 u.2.2.2) (fun _ => [])) (va_A (xwT sk a t i q c d) sz)) 0 0 (va_A (xwT sk a t i q c d) sz) := by
  refine Met.ofW (cc := cX11_line) (maxL := 4) (ret := (some .int)) (by decide +kernel) rfl ?_
  intro p e s m args below meth cd s₁ B hml hv
  obtain ⟨rfl, ⟨hsz, hP, hK, hD0⟩, hN, hZ, hBW⟩ := hv
  have hx := B.exec
  have hb := B.bytes
  have hr := B.returns
  have hts := atoms_spec (ws := wm_X11_line_eQ) B.pre
  have hown : s.vm.findClass RX11 = some m.cls := findClass_of_methodNamed B.named
  have hlocks := B.notSynchronized
  subst hsz
  have hD := hD0.self (sz := s.heap.size)
  have hZ := xZ_A hZ hP hBW
  generalize hAe : va_A (xwT sk a t i q c d) s.heap.size = A at hD hZ ⊢
  have hA : ∀ q : Nat, s.heap.size ≤ q → A q := fun q h => by rw [← hAe]; exact Or.inr h
  have hS : va_S A s.heap s.heap [] := va_S.rf
  have hfi : ∀ k, k ∉ ([] : List Nat) → i k = i k := fun _ _ => rfl
  have hfc : ∀ k, k ∉ ([] : List Nat) → c k = c k := fun _ _ => rfl
  have hl := lv_entry ([.ref (a 100), .int w, .int s1, .int n1]) (n := 4) (Nat.le_of_ble_eq_true rfl)
  rw [lg_entry_eq]
  generalize (lg_sl ([.ref (a 100), .int w, .int s1, .int n1]) ++ List.replicate (4 - (lg_sl ([.ref (a 100), .int w, .int s1, .int n1])).length) Slot.unset).toArray = ls at hl ⊢
  have hl : lv_has ls 4 [(0, .ref (a 100)), (1, .int w), (2, .int s1), (3, .int n1)] := hl
  have rb111_i : 0 ≤ (i 111).toInt ∧ (i 111).toInt ≤ 30 := hI.1 111
  refine lv_aload_n hx hb dX11_line_0 rfl (lv_at hl 0 rfl) ?_
  refine xgT_X_world hx hb hts (fun _ h => List.mem_cons_of_mem _ (List.mem_append_left _ (List.mem_append_left _ (List.mem_append_right _ h)))) hown hK hP (hts (.fieldLink RX11 10 "TalePlay" "world" "LTalePlay$World;") (List.mem_cons_of_mem _ (List.mem_append_left _ (List.mem_append_left _ (List.mem_append_left _ (List.mem_append_left _ (List.mem_of_getElem? (i := 0) rfl))))))) dX11_line_1 ?_
  refine lv_iload_n hx hb dX11_line_4 rfl (lv_at hl 1 rfl) ?_
  refine ro_calli (va_runV (As := [.int w]) (rest := []) ⟨hx, hb, hml, hown, hts⟩ (x_X10_hasObject l D s.heap.size .null a t i q c d w hI ) (cwV 1 hts gm_X11_line_eQ_X10_hasObject_109 rfl rfl rfl (by decide +kernel) ⟨Nat.le_of_ble_eq_true rfl, Nat.le_of_ble_eq_true rfl⟩) (yA_V hN (xZ_k hZ hS hA) (xkT_W hK) (xuT_W (sk := sk) hP) (ci := 10) (q0 := 0) rfl rfl) rfl rfl hl.1 rfl (lv_room (Nat.le_of_ble_eq_true rfl)) dX11_line_5 ⟨Nat.le_of_ble_eq_true rfl, Nat.le_of_ble_eq_true rfl⟩) hS hA hP (fun r1 u1 H locs hw1 hP hS => ?_)
  have hw1 : r1 = if (0 ≤ w.toInt ∧ w.toInt < (i 111).toInt) then 1 else 0 := hw1
  refine lv_if_eq (tgt := 25) hx hb dX11_line_8 (by decide +kernel) (fun c2 => ?_) (fun c2 => ?_)
  · have f2 := fl_f hw1 c2
    refine lv_iconst (v := (-1)) hx hb dX11_line_25 (by decide +kernel) ?_
    exact rw_iret (i, q, c, d) hx hb hr hlocks hS (hK.sub (tys' := []) [] rfl) hP hD dX11_line_26 ⟨trivial, hI, fr_w hfi (by decide +kernel), fr_w hfc (by decide +kernel), (show (¬ (0 ≤ w.toInt ∧ w.toInt < (i 111).toInt ∧ 0 ≤ s1.toInt ∧ s1.toInt ≤ 3 ∧ n1.toInt ≤ 12) ∧ ((-1) : Int32).toInt = -1) ∨ (0 ≤ w.toInt ∧ w.toInt < (i 111).toInt ∧ 0 ≤ s1.toInt ∧ s1.toInt ≤ 3 ∧ n1.toInt ≤ 12 ∧ n1.toInt < 0 ∧ ((-1) : Int32).toInt = -3) ∨ (0 ≤ w.toInt ∧ w.toInt < (i 111).toInt ∧ 0 ≤ s1.toInt ∧ s1.toInt ≤ 3 ∧ n1.toInt ≤ 12 ∧ 0 ≤ n1.toInt ∧ ((-1) : Int32).toInt = n1.toInt) from by have h50 : ((-1) : Int32).toInt = -1 := (by decide +kernel); omega), (show LU (c 158) (c 159) (c 158) (c 159) w s1 n1 (i 111).toInt from Or.inl ⟨by unfold LB; omega, rfl, rfl⟩), (show LzR (LB w s1 n1 (i 111).toInt) (d 160) (d 160) w.toInt from Or.inl ⟨by unfold LB; omega, rfl⟩), rfl⟩
  · have f2 := fl_t hw1 c2
    refine lv_iload_n hx hb dX11_line_11 rfl (lv_at hl 2 rfl) ?_
    refine lv_iconst (v := 4) hx hb dX11_line_12 (by decide +kernel) ?_
    have hPc := hP.sub (ws' := []) [] rfl
    have hKc := hK.sub (tys' := []) [] rfl
    refine ro_calli (va_runS (As := [.int s1, .int 4]) (rest := []) ⟨hx, hb, hml, hown, hts⟩ (c_X11_isBelow l D H.size s1 4 s1.toInt 4 rfl (by decide +kernel)) (va_cwS 2 hts gm_X11_line_eQ_X11_isBelow_91 rfl rfl rfl (by decide +kernel) ⟨Nat.le_of_ble_eq_true rfl, Nat.le_of_ble_eq_true rfl⟩) (pA_S hKc hPc) rfl rfl hl.1 rfl (lv_room (Nat.le_of_ble_eq_true rfl)) dX11_line_13 ⟨Nat.le_of_ble_eq_true rfl, Nat.le_of_ble_eq_true rfl⟩) hS hA hP (fun r4 u4 H locs hw4 hP hS => ?_)
    have hw4 : r4 = if (0 ≤ s1.toInt ∧ s1.toInt < 4) then 1 else 0 := hw4
    refine lv_if_eq (tgt := 25) hx hb dX11_line_16 (by decide +kernel) (fun c5 => ?_) (fun c5 => ?_)
    · have f5 := fl_f hw4 c5
      refine lv_iconst (v := (-1)) hx hb dX11_line_25 (by decide +kernel) ?_
      exact rw_iret (i, q, c, d) hx hb hr hlocks hS (hK.sub (tys' := []) [] rfl) hP hD dX11_line_26 ⟨trivial, hI, fr_w hfi (by decide +kernel), fr_w hfc (by decide +kernel), (show (¬ (0 ≤ w.toInt ∧ w.toInt < (i 111).toInt ∧ 0 ≤ s1.toInt ∧ s1.toInt ≤ 3 ∧ n1.toInt ≤ 12) ∧ ((-1) : Int32).toInt = -1) ∨ (0 ≤ w.toInt ∧ w.toInt < (i 111).toInt ∧ 0 ≤ s1.toInt ∧ s1.toInt ≤ 3 ∧ n1.toInt ≤ 12 ∧ n1.toInt < 0 ∧ ((-1) : Int32).toInt = -3) ∨ (0 ≤ w.toInt ∧ w.toInt < (i 111).toInt ∧ 0 ≤ s1.toInt ∧ s1.toInt ≤ 3 ∧ n1.toInt ≤ 12 ∧ 0 ≤ n1.toInt ∧ ((-1) : Int32).toInt = n1.toInt) from by have h50 : ((-1) : Int32).toInt = -1 := (by decide +kernel); omega), (show LU (c 158) (c 159) (c 158) (c 159) w s1 n1 (i 111).toInt from Or.inl ⟨by unfold LB; omega, rfl, rfl⟩), (show LzR (LB w s1 n1 (i 111).toInt) (d 160) (d 160) w.toInt from Or.inl ⟨by unfold LB; omega, rfl⟩), rfl⟩
    · have f5 := fl_t hw4 c5
      refine lv_iload_n hx hb dX11_line_19 rfl (lv_at hl 3 rfl) ?_
      refine lv_bipush (v := 12) hx hb dX11_line_20 (by decide +kernel) ?_
      refine lv_icmp_le (tgt := 27) hx hb dX11_line_22 (by decide +kernel) (fun c6 => ?_) (fun c6 => ?_)
      · have f6 := (ti_le (a := n1.toInt) (b := 12) rfl (by decide +kernel)).mp c6
        refine lv_iload_n hx hb dX11_line_27 rfl (lv_at hl 3 rfl) ?_
        refine lv_if_ge (tgt := 37) hx hb dX11_line_28 (by decide +kernel) (fun c7 => ?_) (fun c7 => ?_)
        · have f7 := (ti_le (a := 0) (b := n1.toInt) (by decide +kernel) rfl).mp c7
          refine lv_aload_n hx hb dX11_line_37 rfl (lv_at hl 0 rfl) ?_
          refine xgT_X_lines hx hb hts (fun _ h => List.mem_cons_of_mem _ (List.mem_append_left _ (List.mem_append_left _ (List.mem_append_right _ h)))) hown hK hP (hts (.fieldLink RX11 53 "TalePlay" "lines" "LTalePlay$Lines;") (List.mem_cons_of_mem _ (List.mem_append_left _ (List.mem_append_left _ (List.mem_append_left _ (List.mem_append_left _ (List.mem_of_getElem? (i := 11) rfl))))))) dX11_line_38 ?_
          refine lv_iload_n hx hb dX11_line_41 rfl (lv_at hl 1 rfl) ?_
          refine lv_iload_n hx hb dX11_line_42 rfl (lv_at hl 2 rfl) ?_
          refine lv_iload_n hx hb dX11_line_43 rfl (lv_at hl 3 rfl) ?_
          refine al_callv (va_runV (As := [.int w, .int s1, .int n1]) (rest := []) ⟨hx, hb, hml, hown, hts⟩ (x_X4_lay_eQ l D H.size sk a t i q c d w s1 n1 hI (show 0 ≤ w.toInt ∧ w.toInt ≤ 29 from by omega) (show 0 ≤ s1.toInt ∧ s1.toInt ≤ 3 from by omega) (show 0 ≤ n1.toInt ∧ n1.toInt ≤ 12 from by omega)) (cwV 3 hts gm_X11_line_eQ_X4_lay_eQ_304 rfl rfl rfl (by decide +kernel) ⟨Nat.le_of_ble_eq_true rfl, Nat.le_of_ble_eq_true rfl⟩) (yB_V hN (xZ_k hZ hS hA) (xZ_n hZ hD) hK hP hD (ci := 4) (q0 := 43) rfl rfl) rfl rfl hl.1 rfl (lv_room (Nat.le_of_ble_eq_true rfl)) dX11_line_44 ⟨Nat.le_of_ble_eq_true rfl, Nat.le_of_ble_eq_true rfl⟩) hS hA hP hD (fun u8 H locs hv8 hP hD hS => ?_)
          obtain ⟨i8, q8, c8, d8⟩ := u8
          have hw8 : True ∧ xInv i8 c8 ∧ (∀ k, k ∉ ([] : List Nat) → i8 k = i k) ∧ (∀ k, k ∉ ([158, 159] : List Nat) → c8 k = c k) ∧ ((c8 158) = upd (c 158) w.toNatClampNeg s1) ∧ ((c8 159) = upd (c 159) w.toNatClampNeg n1) ∧ (LzK (d 160) (d8 160) w.toInt 12) ∧ (q = q8) := hv8
          clear hv8
          obtain ⟨hw8, hI, hei8, hec8, hxp8_0, hxp8_1, hxp8_2, hq8_q⟩ := hw8
          have hxp8_0 : (c8 158) = upd (c 158) w.toNatClampNeg s1 := hxp8_0
          have hxp8_1 : (c8 159) = upd (c 159) w.toNatClampNeg n1 := hxp8_1
          have hxp8_2 : LzK (d 160) (d8 160) w.toInt 12 := hxp8_2
          subst hq8_q
          have hfi : ∀ k, k ∉ ([] : List Nat) → i8 k = i k := fr_z hfi hei8 (by decide +kernel) (by decide +kernel)
          have hfc : ∀ k, k ∉ ([158, 159] : List Nat) → c8 k = c k := fr_z hfc hec8 (by decide +kernel) (by decide +kernel)
          refine lv_iload_n hx hb dX11_line_47 rfl (lv_at hl 3 rfl) ?_
          exact rw_iret (i8, q, c8, d8) hx hb hr hlocks hS (hK.sub (tys' := []) [] rfl) hP hD dX11_line_48 ⟨trivial, hI, fr_w hfi (by decide +kernel), fr_w hfc (by decide +kernel), (show (¬ (0 ≤ w.toInt ∧ w.toInt < (i 111).toInt ∧ 0 ≤ s1.toInt ∧ s1.toInt ≤ 3 ∧ n1.toInt ≤ 12) ∧ (n1 : Int32).toInt = -1) ∨ (0 ≤ w.toInt ∧ w.toInt < (i 111).toInt ∧ 0 ≤ s1.toInt ∧ s1.toInt ≤ 3 ∧ n1.toInt ≤ 12 ∧ n1.toInt < 0 ∧ (n1 : Int32).toInt = -3) ∨ (0 ≤ w.toInt ∧ w.toInt < (i 111).toInt ∧ 0 ≤ s1.toInt ∧ s1.toInt ≤ 3 ∧ n1.toInt ≤ 12 ∧ 0 ≤ n1.toInt ∧ (n1 : Int32).toInt = n1.toInt) from by omega), (show LU (c 158) (c 159) (c8 158) (c8 159) w s1 n1 (i 111).toInt from Or.inr ⟨by unfold LB; omega, hxp8_0, hxp8_1⟩), (show LzR (LB w s1 n1 (i 111).toInt) (d 160) (d8 160) w.toInt from Or.inr ⟨by unfold LB; omega, hxp8_2⟩), rfl⟩
        · have f7 := mt (ti_le (a := 0) (b := n1.toInt) (by decide +kernel) rfl).mpr c7
          refine lv_aload_n hx hb dX11_line_31 rfl (lv_at hl 0 rfl) ?_
          refine lv_iconst (v := 5) hx hb dX11_line_32 (by decide +kernel) ?_
          refine al_calli (va_runV (As := [.int 5]) (rest := []) ⟨hx, hb, hml, hown, hts⟩ (x_X11_answerFinding l D H.size sk a t i q c d 5 hI (show 1 ≤ 5 ∧ 5 ≤ 6 from by have h90 : (5 : Int32).toInt = 5 := (by decide +kernel); omega)) (cwV 1 hts gm_X11_line_eQ_X11_answerFinding_128 rfl rfl rfl (by decide +kernel) ⟨Nat.le_of_ble_eq_true rfl, Nat.le_of_ble_eq_true rfl⟩) (yB_V hN (xZ_k hZ hS hA) (xZ_n hZ hD) hK hP hD (ci := 11) (q0 := 0) rfl rfl) rfl rfl hl.1 rfl (lv_room (Nat.le_of_ble_eq_true rfl)) dX11_line_33 ⟨Nat.le_of_ble_eq_true rfl, Nat.le_of_ble_eq_true rfl⟩) hS hA hP hD (fun r9 u9 H locs hv9 hP hD hS => ?_)
          obtain ⟨i9, q9, c9, d9⟩ := u9
          have hw9 : r9 = (-3) ∧ xInv i9 c9 ∧ (∀ k, k ∉ ([102] : List Nat) → i9 k = i k) ∧ (∀ k, k ∉ ([101] : List Nat) → c9 k = c k) ∧ (q = q9) ∧ (d = d9) := hv9
          clear hv9
          obtain ⟨hw9, hI, hei9, hec9, hq9_q, hq9_d⟩ := hw9
          subst hq9_q
          subst hq9_d
          have hfi : ∀ k, k ∉ ([102] : List Nat) → i9 k = i k := fr_z hfi hei9 (by decide +kernel) (by decide +kernel)
          have hfc : ∀ k, k ∉ ([101] : List Nat) → c9 k = c k := fr_z hfc hec9 (by decide +kernel) (by decide +kernel)
          have hw9 : r9 = (-3) := hw9
          subst hw9
          exact rw_iret (i9, q, c9, d) hx hb hr hlocks hS (hK.sub (tys' := []) [] rfl) hP hD dX11_line_36 ⟨trivial, hI, fr_w hfi (by decide +kernel), fr_w hfc (by decide +kernel), (show (¬ (0 ≤ w.toInt ∧ w.toInt < (i 111).toInt ∧ 0 ≤ s1.toInt ∧ s1.toInt ≤ 3 ∧ n1.toInt ≤ 12) ∧ ((-3) : Int32).toInt = -1) ∨ (0 ≤ w.toInt ∧ w.toInt < (i 111).toInt ∧ 0 ≤ s1.toInt ∧ s1.toInt ≤ 3 ∧ n1.toInt ≤ 12 ∧ n1.toInt < 0 ∧ ((-3) : Int32).toInt = -3) ∨ (0 ≤ w.toInt ∧ w.toInt < (i 111).toInt ∧ 0 ≤ s1.toInt ∧ s1.toInt ≤ 3 ∧ n1.toInt ≤ 12 ∧ 0 ≤ n1.toInt ∧ ((-3) : Int32).toInt = n1.toInt) from by have h50 : ((-3) : Int32).toInt = -3 := (by decide +kernel); omega), (show LU (c 158) (c 159) (c9 158) (c9 159) w s1 n1 (i 111).toInt from Or.inl ⟨by unfold LB; omega, hfc 158 (by decide +kernel), hfc 159 (by decide +kernel)⟩), (show LzR (LB w s1 n1 (i 111).toInt) (d 160) (d 160) w.toInt from Or.inl ⟨by unfold LB; omega, rfl⟩), rfl⟩
      · have f6 := mt (ti_le (a := n1.toInt) (b := 12) rfl (by decide +kernel)).mpr c6
        refine lv_iconst (v := (-1)) hx hb dX11_line_25 (by decide +kernel) ?_
        exact rw_iret (i, q, c, d) hx hb hr hlocks hS (hK.sub (tys' := []) [] rfl) hP hD dX11_line_26 ⟨trivial, hI, fr_w hfi (by decide +kernel), fr_w hfc (by decide +kernel), (show (¬ (0 ≤ w.toInt ∧ w.toInt < (i 111).toInt ∧ 0 ≤ s1.toInt ∧ s1.toInt ≤ 3 ∧ n1.toInt ≤ 12) ∧ ((-1) : Int32).toInt = -1) ∨ (0 ≤ w.toInt ∧ w.toInt < (i 111).toInt ∧ 0 ≤ s1.toInt ∧ s1.toInt ≤ 3 ∧ n1.toInt ≤ 12 ∧ n1.toInt < 0 ∧ ((-1) : Int32).toInt = -3) ∨ (0 ≤ w.toInt ∧ w.toInt < (i 111).toInt ∧ 0 ≤ s1.toInt ∧ s1.toInt ≤ 3 ∧ n1.toInt ≤ 12 ∧ 0 ≤ n1.toInt ∧ ((-1) : Int32).toInt = n1.toInt) from by have h50 : ((-1) : Int32).toInt = -1 := (by decide +kernel); omega), (show LU (c 158) (c 159) (c 158) (c 159) w s1 n1 (i 111).toInt from Or.inl ⟨by unfold LB; omega, rfl, rfl⟩), (show LzR (LB w s1 n1 (i 111).toInt) (d 160) (d 160) w.toInt from Or.inl ⟨by unfold LB; omega, rfl⟩), rfl⟩

