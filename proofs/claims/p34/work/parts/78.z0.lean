def SoR (pa so : Nat → Int32) (kn : Int32) : Prop := ∀ k : Nat, (k : Int) < kn.toInt → ∀ c : Int, 0 ≤ c → c ≤ 5 → (Ch (kF pa) (k : Int) c ↔ ((so k).toInt = c ∨ (c = 1 ∧ 1 < (so k).toInt)))
def RoR (a b : Nat → Int32) (md : Int32) : Prop := ∀ j : Nat, j < 120 → ((j : Int) < 12 * md.toInt → a j = b j) ∧ (12 * md.toInt ≤ (j : Int) → (a j).toInt = -9)
def KS (a b : Nat → Int32) (k kn : Int32) : Prop := (¬ (0 ≤ k.toInt ∧ k.toInt < kn.toInt ∧ kn.toInt ≤ 23) ∧ b = a) ∨ (0 ≤ k.toInt ∧ k.toInt < kn.toInt ∧ kn.toInt ≤ 23 ∧ b = upd a kn.toNatClampNeg (a k.toNatClampNeg))
def CNew (s1 n1 md : Int32) : Prop := 1 ≤ s1.toInt ∧ s1.toInt ≤ 5 ∧ n1.toInt ≤ 12 ∧ md.toInt ≤ 9 ∧ 0 ≤ n1.toInt
def CUx (a b a2 b2 : Nat → Int32) (s1 n1 md : Int32) : Prop := (¬ CNew s1 n1 md ∧ a2 = a ∧ b2 = b) ∨ (CNew s1 n1 md ∧ a2 = upd a md.toNatClampNeg s1 ∧ b2 = upd b md.toNatClampNeg n1)
def CRo (r r2 : Nat → Int32) (md : Int32) (k : Int) : Prop := ∀ j : Nat, r2 j = if 12 * md.toInt ≤ (j : Int) ∧ (j : Int) < 12 * md.toInt + k then -9 else r j
def CUm (a b r a2 b2 r2 : Nat → Int32) (s1 n1 md : Int32) : Prop := (¬ CNew s1 n1 md ∧ a2 = a ∧ b2 = b ∧ r2 = r) ∨ (CNew s1 n1 md ∧ a2 = upd a md.toNatClampNeg s1 ∧ b2 = upd b md.toNatClampNeg n1 ∧ CRo r r2 md 12)
theorem CRo_s {r f : Nat → Int32} {md x y z : Int32} {v : Int32} (h : CRo r f md x.toInt) (h0 : 0 ≤ md.toInt ∧ md.toInt ≤ 9) (hx : 0 ≤ x.toInt ∧ x.toInt ≤ 11) (ey : y.toInt = x.toInt + 1) (ez : z.toInt = 12 * md.toInt + x.toInt) (hv : v = -9) : CRo r (upd f z.toNatClampNeg v) md y.toInt := by
  intro j
  have e : z.toNatClampNeg = z.toInt.toNat := rfl
  by_cases q : j = z.toNatClampNeg
  · rw [q, pk_us, if_pos (by omega), hv]
  · rw [pk_un q, h j]
    by_cases p : 12 * md.toInt ≤ (j : Int) ∧ (j : Int) < 12 * md.toInt + x.toInt
    · rw [if_pos p, if_pos (by omega)]
    · rw [if_neg p, if_neg (by omega)]
def RA (w o md ob : Int32) : Prop := 0 ≤ w.toInt ∧ w.toInt < md.toInt ∧ (o.toInt = -9 ∨ (0 ≤ o.toInt ∧ o.toInt < ob.toInt))
/-- role(): what it answers, what it writes; B: the object may have that role -/
def RoW (a b : Nat → Int32) (w n1 o md ob r : Int32) (B : Prop) : Prop := (¬ RA w o md ob ∧ r.toInt = -1 ∧ b = a) ∨ (RA w o md ob ∧ ¬ B ∧ r.toInt = -3 ∧ b = a) ∨ (RA w o md ob ∧ B ∧ r.toInt = 1 ∧ b = upd a (w.toInt * 12 + n1.toInt).toNat o)
def RBx (ko so cs cl : Nat → Int32) (w n1 o : Int32) : Prop := 0 ≤ n1.toInt ∧ n1.toInt < (cl w.toNatClampNeg).toInt ∧ (o.toInt = -9 ∨ (¬ (so (ko o.toInt.toNat).toNatClampNeg).toInt = 0 ∧ ((so (ko o.toInt.toNat).toNatClampNeg).toInt = (cs w.toNatClampNeg).toInt ∨ ((cs w.toNatClampNeg).toInt = 1 ∧ 1 < (so (ko o.toInt.toNat).toNatClampNeg).toInt))))
def RBm (pa ko cs cl : Nat → Int32) (w n1 o : Int32) : Prop := 0 ≤ n1.toInt ∧ n1.toInt < (cl w.toNatClampNeg).toInt ∧ (o.toInt = -9 ∨ (¬ Kd pa ko o.toInt 0 ∧ Kd pa ko o.toInt (cs w.toNatClampNeg).toInt))
def WhR (ro cl : Nat → Int32) (w n1 md r : Int32) : Prop := (¬ (0 ≤ w.toInt ∧ w.toInt < md.toInt) ∧ r.toInt = -1) ∨ (0 ≤ w.toInt ∧ w.toInt < md.toInt ∧ ¬ (0 ≤ n1.toInt ∧ n1.toInt < (cl w.toNatClampNeg).toInt) ∧ r.toInt = -3) ∨ (0 ≤ w.toInt ∧ w.toInt < md.toInt ∧ 0 ≤ n1.toInt ∧ n1.toInt < (cl w.toNatClampNeg).toInt ∧ n1.toInt ≤ 11 ∧ (((ro (w.toInt * 12 + n1.toInt).toNat).toInt = -9 ∧ r.toInt = -3) ∨ (¬ (ro (w.toInt * 12 + n1.toInt).toNat).toInt = -9 ∧ r = ro (w.toInt * 12 + n1.toInt).toNat)))

def KU (a b : Nat → Int32) (k kn : Int32) : Prop := (¬ (0 ≤ k.toInt ∧ k.toInt < kn.toInt ∧ kn.toInt ≤ 23) ∧ b = a) ∨ (0 ≤ k.toInt ∧ k.toInt < kn.toInt ∧ kn.toInt ≤ 23 ∧ b = upd a kn.toNatClampNeg k)
def OU (a b : Nat → Int32) (k s1 kn ob : Int32) : Prop := (¬ (0 ≤ k.toInt ∧ k.toInt < kn.toInt ∧ 0 ≤ s1.toInt ∧ s1.toInt ≤ 99 ∧ ob.toInt ≤ 29) ∧ b = a) ∨ (0 ≤ k.toInt ∧ k.toInt < kn.toInt ∧ 0 ≤ s1.toInt ∧ s1.toInt ≤ 99 ∧ ob.toInt ≤ 29 ∧ b = upd a ob.toNatClampNeg k)
def PD (pa : Nat → Int32) : Prop := ∀ j : Nat, (pa j).toInt = -9 ∨ (0 ≤ (pa j).toInt ∧ (pa j).toInt < (j : Int))
def IsR (pa ko : Nat → Int32) (w k : Int32) (ob kn : Int) (r : Int32) : Prop := (¬ (0 ≤ w.toInt ∧ w.toInt < ob ∧ 0 ≤ k.toInt ∧ k.toInt < kn) ∧ r.toInt = -1) ∨ ((0 ≤ w.toInt ∧ w.toInt < ob ∧ 0 ≤ k.toInt ∧ k.toInt < kn) ∧ Sm r (Kd pa ko w.toInt k.toInt))
theorem sm_fl {r z : Int32} {P : Prop} (h : r = if (¬ z.toInt = 0) then 1 else 0) (hz : Sm z P) : Sm r P := by
  rcases hz with ⟨a, b⟩ | ⟨a, b⟩
  · rw [if_pos (by omega)] at h; subst h; exact sm_1 b
  · rw [if_neg (by omega)] at h; subst h; exact sm_0 b

def StB (k f v : Int32) (kn : Int) : Prop := ¬ (0 ≤ k.toInt ∧ k.toInt < kn) ∨ ¬ (0 ≤ f.toInt ∧ f.toInt ≤ 5) ∨ ¬ (v.toInt = -9 ∨ v.toInt = 0 ∨ v.toInt = 1)
def StU (a b : Nat → Int32) (k f v : Int32) (kn : Int) : Prop := (StB k f v kn ∧ b = a) ∨ (¬ StB k f v kn ∧ b = upd a (k.toInt * 6 + f.toInt).toNat v)
def StR (a : Nat → Int32) (k f v : Int32) (kn : Int) (r : Int32) : Prop := (StB k f v kn ∧ r.toInt = -1) ∨ (¬ StB k f v kn ∧ r = a (k.toInt * 6 + f.toInt).toNat)
theorem cl_t {x : Int32} {a : Int} (e : x.toInt = a) : x.toNatClampNeg = a.toNat := by rw [← e]; rfl

def wm_X10_addKind_e : List Cond := .code yX10_addKind cX10_addKind 2 (some .int) :: (([.fieldLink RX10 9 "TalePlay$World" "parents" "[I", .fieldLink RX10 33 "TalePlay$World" "kinds" "I", .fieldLink RX10 15 "TalePlay$World" "sorts" "[I"] : List Cond) ++ wsX100)
set_option maxHeartbeats 4000000 in
set_option maxRecDepth 100000 in
theorem x_X10_addKind_e (l : Launch) (D : va_G) (sz : Nat) (sk : Value) (a : Nat → Nat) (t : Nat → ClassId) (i : Nat → Int32) (q : Int64) (c : Nat → Nat → Int32) (d : Nat → Nat → Int64) (k1 : Int32) (hI : xInv i c) (hk1 : 0 ≤ k1.toInt ∧ k1.toInt ≤ 23) (hkn : (i 110).toInt ≤ 23) : Met l yX10_addKind wm_X10_addKind_e ({ frames := 0, cells := 0, slots := 0, locals := 0 }) (va_Pc [.ref (a 104), .int k1] (yB (a 186) D sz (xwT sk a t i q c d) (xtT t))) (va_Qi (fun (r : Int32) (u : MS) => (r.toInt = (i 110).toInt) ∧ xInv u.1 u.2.2.1 ∧ (∀ k, k ∉ ([110] : List Nat) → u.1 k = i k) ∧ (∀ k, k ∉ ([105, 106] : List Nat) → u.2.2.1 k = c k) ∧ ((u.1 110).toInt = (i 110).toInt + 1) ∧ ((u.2.2.1 105) = upd (c 105) (i 110).toNatClampNeg k1) ∧ ((u.2.2.1 106) = upd (c 106) (i 110).toNatClampNeg (c 106 k1.toNatClampNeg))) (oC D (va_A (xwT sk a t i q c d) sz) (fun u : MS => xwT sk a t u.1 u.2.1 u.2.2.1 u.2.2.2) (fun _ => [])) (va_A (xwT sk a t i q c d) sz)) 0 0 (va_A (xwT sk a t i q c d) sz) := by
  refine Met.ofW (cc := cX10_addKind) (maxL := 2) (ret := (some .int)) (by decide +kernel) rfl ?_
  intro p e s m args below meth cd s₁ B hml hv
  obtain ⟨rfl, ⟨hsz, hP, hK, hD0⟩, hN, hZ, hBW⟩ := hv
  have hx := B.exec
  have hb := B.bytes
  have hr := B.returns
  have hts := atoms_spec (ws := wm_X10_addKind_e) B.pre
  have hown : s.vm.findClass RX10 = some m.cls := findClass_of_methodNamed B.named
  have hlocks := B.notSynchronized
  subst hsz
  have hD := hD0.self (sz := s.heap.size)
  have hZ := xZ_A hZ hP hBW
  generalize hAe : va_A (xwT sk a t i q c d) s.heap.size = A at hD hZ ⊢
  have hA : ∀ q : Nat, s.heap.size ≤ q → A q := fun q h => by rw [← hAe]; exact Or.inr h
  have hS : va_S A s.heap s.heap [] := va_S.rf
  have hfi : ∀ k, k ∉ ([] : List Nat) → i k = i k := fun _ _ => rfl
  have hfc : ∀ k, k ∉ ([] : List Nat) → c k = c k := fun _ _ => rfl
  have hl := lv_entry ([.ref (a 104), .int k1]) (n := 2) (Nat.le_of_ble_eq_true rfl)
  rw [lg_entry_eq]
  generalize (lg_sl ([.ref (a 104), .int k1]) ++ List.replicate (2 - (lg_sl ([.ref (a 104), .int k1])).length) Slot.unset).toArray = ls at hl ⊢
  have hl : lv_has ls 2 [(0, .ref (a 104)), (1, .int k1)] := hl
  refine lv_aload_n hx hb dX10_addKind_0 rfl (lv_at hl 0 rfl) ?_
  refine xgT_W_parents hx hb hts (fun _ h => List.mem_cons_of_mem _ (List.mem_append_right _ h)) hown hK hP (hts (.fieldLink RX10 9 "TalePlay$World" "parents" "[I") (List.mem_cons_of_mem _ (List.mem_append_left _ (List.mem_of_getElem? (i := 0) rfl)))) dX10_addKind_1 ?_
  refine lv_aload_n hx hb dX10_addKind_4 rfl (lv_at hl 0 rfl) ?_
  refine xgT_W_kinds (v := (i 110)) rfl hx hb hts (fun _ h => List.mem_cons_of_mem _ (List.mem_append_right _ h)) hown hK hP (hts (.fieldLink RX10 33 "TalePlay$World" "kinds" "I") (List.mem_cons_of_mem _ (List.mem_append_left _ (List.mem_of_getElem? (i := 1) rfl)))) dX10_addKind_5 ?_
  have rb110_i : 6 ≤ (i 110).toInt ∧ (i 110).toInt ≤ 24 := hI.1 110
  refine lv_iload_n hx hb dX10_addKind_8 rfl (lv_at hl 1 rfl) ?_
  refine xsT_105 hx hb hK hP hD hS (vp_in_iff.mpr (by have h9 : (i 110).toInt = (i 110).toInt := rfl; omega)) dX10_addKind_9 (fun H locs hP hD hS => ?_)
  have hI := xInv_c hI (k := 105) (j := ((i 110) : Int32).toNatClampNeg) (x := k1) (show (k1 : Int32).toInt = -9 ∨ (0 ≤ (k1 : Int32).toInt ∧ (k1 : Int32).toInt ≤ 23) from by omega)
  have hfc : ∀ k, k ∉ ([105] : List Nat) → (updA c 105 ((i 110) : Int32).toNatClampNeg k1) k = c k := fr_cz hfc (by decide +kernel) (by decide +kernel)
  refine lv_aload_n hx hb dX10_addKind_10 rfl (lv_at hl 0 rfl) ?_
  refine xgT_W_sorts hx hb hts (fun _ h => List.mem_cons_of_mem _ (List.mem_append_right _ h)) hown hK hP (hts (.fieldLink RX10 15 "TalePlay$World" "sorts" "[I") (List.mem_cons_of_mem _ (List.mem_append_left _ (List.mem_of_getElem? (i := 2) rfl)))) dX10_addKind_11 ?_
  refine lv_aload_n hx hb dX10_addKind_14 rfl (lv_at hl 0 rfl) ?_
  refine xgT_W_kinds (v := (i 110)) rfl hx hb hts (fun _ h => List.mem_cons_of_mem _ (List.mem_append_right _ h)) hown hK hP (hts (.fieldLink RX10 33 "TalePlay$World" "kinds" "I") (List.mem_cons_of_mem _ (List.mem_append_left _ (List.mem_of_getElem? (i := 1) rfl)))) dX10_addKind_15 ?_
  refine lv_aload_n hx hb dX10_addKind_18 rfl (lv_at hl 0 rfl) ?_
  refine xgT_W_sorts hx hb hts (fun _ h => List.mem_cons_of_mem _ (List.mem_append_right _ h)) hown hK hP (hts (.fieldLink RX10 15 "TalePlay$World" "sorts" "[I") (List.mem_cons_of_mem _ (List.mem_append_left _ (List.mem_of_getElem? (i := 2) rfl)))) dX10_addKind_19 ?_
  refine lv_iload_n hx hb dX10_addKind_22 rfl (lv_at hl 1 rfl) ?_
  refine xlT_106 hx hb hK hP (vp_in_iff.mpr (by have h9 : k1.toInt = k1.toInt := rfl; omega)) dX10_addKind_23 (fun x1 ex1 => ?_)
  have rx1 : 0 ≤ x1.toInt ∧ x1.toInt ≤ 5 := by rw [ex1]; exact hI.2 106 _
  refine xsT_106 hx hb hK hP hD hS (vp_in_iff.mpr (by have h9 : (i 110).toInt = (i 110).toInt := rfl; omega)) dX10_addKind_24 (fun H locs hP hD hS => ?_)
  have hI := xInv_c hI (k := 106) (j := ((i 110) : Int32).toNatClampNeg) (x := x1) (show 0 ≤ (x1 : Int32).toInt ∧ (x1 : Int32).toInt ≤ 5 from by omega)
  have hfc : ∀ k, k ∉ ([105, 106] : List Nat) → (updA (updA c 105 ((i 110) : Int32).toNatClampNeg k1) 106 ((i 110) : Int32).toNatClampNeg x1) k = c k := fr_cz hfc (by decide +kernel) (by decide +kernel)
  refine lv_aload_n hx hb dX10_addKind_25 rfl (lv_at hl 0 rfl) ?_
  refine lv_dup hx hb dX10_addKind_26 rfl ?_
  refine xgT_W_kinds (v := (i 110)) rfl hx hb hts (fun _ h => List.mem_cons_of_mem _ (List.mem_append_right _ h)) hown hK hP (hts (.fieldLink RX10 33 "TalePlay$World" "kinds" "I") (List.mem_cons_of_mem _ (List.mem_append_left _ (List.mem_of_getElem? (i := 1) rfl)))) dX10_addKind_27 ?_
  refine lv_dup_x1 hx hb dX10_addKind_30 rfl rfl ?_
  refine lv_iconst (v := 1) hx hb dX10_addKind_31 (by decide +kernel) ?_
  refine lv_iadd hx hb dX10_addKind_32 ?_
  refine lv_topi (fun x2 ex2 => ?_)
  have tx2 := ti_add (a := (i 110).toInt) (b := 1) ex2 rfl (by decide +kernel) (by omega) (by omega)
  refine xpT_W_kinds hx hb hts (fun _ h => List.mem_cons_of_mem _ (List.mem_append_right _ h)) hown hK hP hD hS (hts (.fieldLink RX10 33 "TalePlay$World" "kinds" "I") (List.mem_cons_of_mem _ (List.mem_append_left _ (List.mem_of_getElem? (i := 1) rfl)))) rfl rfl dX10_addKind_33 (fun H locs hP hD hS => ?_)
  have hI := xInv_i hI (k := 110) (v := x2) (show 6 ≤ (x2 : Int32).toInt ∧ (x2 : Int32).toInt ≤ 24 from by have h9 : x2.toInt = ((i 110).toInt + 1) := tx2; omega)
  have hfi : ∀ k, k ∉ ([110] : List Nat) → (upd i 110 x2) k = i k := fr_iz hfi (by decide +kernel) (by decide +kernel)
  exact rw_iret ((upd i 110 x2), q, (updA (updA c 105 ((i 110) : Int32).toNatClampNeg k1) 106 ((i 110) : Int32).toNatClampNeg x1), d) hx hb hr hlocks hS (hK.sub (tys' := []) [] rfl) hP hD dX10_addKind_36 ⟨(show (i 110).toInt = (i 110).toInt from by omega), hI, fr_w hfi (by decide +kernel), fr_w hfc (by decide +kernel), (show (x2 : Int32).toInt = (i 110).toInt + 1 from by have h50 : x2.toInt = ((i 110).toInt + 1) := tx2; omega), (show ((updA (updA c 105 ((i 110) : Int32).toNatClampNeg k1) 106 ((i 110) : Int32).toNatClampNeg x1) 105) = upd (c 105) (i 110).toNatClampNeg k1 from rfl), (show ((updA (updA c 105 ((i 110) : Int32).toNatClampNeg k1) 106 ((i 110) : Int32).toNatClampNeg x1) 106) = upd (c 106) (i 110).toNatClampNeg (c 106 k1.toNatClampNeg) from by show upd (c 106) (i 110).toNatClampNeg x1 = _; rw [ex1]; rfl)⟩

def wm_X11_kind_e : List Cond := .code yX11_kind cX11_kind 2 (some .int) :: (([.fieldLink RX11 10 "TalePlay" "world" "LTalePlay$World;", .methodLink RX11 80 yX10_hasKind, .instanceMethod yX10_hasKind, .selects RX10 yX10_hasKind yX10_hasKind, .initialized RX10, .code yX10_hasKind cX10_hasKind 2 (some .boolean), .fieldLink RX10 33 "TalePlay$World" "kinds" "I", .fieldLink RX11 84 "TalePlay$World" "kinds" "I", .methodLink RX11 87 yX10_addKind, .instanceMethod yX10_addKind, .selects RX10 yX10_addKind yX10_addKind, .code yX10_addKind cX10_addKind 2 (some .int), .fieldLink RX10 9 "TalePlay$World" "parents" "[I", .fieldLink RX10 15 "TalePlay$World" "sorts" "[I"] : List Cond) ++ wsX110 ++ wsX100)
set_option maxRecDepth 20000 in
theorem gm_X11_kind_e_X10_hasKind_80 : GoodIn wm_X11_kind_e (wsV RX11 80 RX10 yX10_hasKind wm_X10_hasKind) := goodIn_w (List.forall_mem_append.mpr ⟨List.forall_mem_cons.mpr ⟨List.mem_cons_of_mem _ (List.mem_append_left _ (List.mem_append_left _ (List.mem_of_getElem? (i := 1) rfl))), List.forall_mem_cons.mpr ⟨List.mem_cons_of_mem _ (List.mem_append_left _ (List.mem_append_left _ (List.mem_of_getElem? (i := 2) rfl))), List.forall_mem_cons.mpr ⟨List.mem_cons_of_mem _ (List.mem_append_left _ (List.mem_append_left _ (List.mem_of_getElem? (i := 3) rfl))), List.forall_mem_cons.mpr ⟨List.mem_cons_of_mem _ (List.mem_append_left _ (List.mem_append_left _ (List.mem_of_getElem? (i := 4) rfl))), (fun _ h => absurd h List.not_mem_nil)⟩⟩⟩⟩, List.forall_mem_cons.mpr ⟨List.mem_cons_of_mem _ (List.mem_append_left _ (List.mem_append_left _ (List.mem_of_getElem? (i := 5) rfl))), List.forall_mem_append.mpr ⟨List.forall_mem_cons.mpr ⟨List.mem_cons_of_mem _ (List.mem_append_left _ (List.mem_append_left _ (List.mem_of_getElem? (i := 6) rfl))), (fun _ h => absurd h List.not_mem_nil)⟩, (fun _ h => List.mem_cons_of_mem _ (List.mem_append_right _ h))⟩⟩⟩) (by decide +kernel)
set_option maxRecDepth 20000 in
theorem gm_X11_kind_e_X10_addKind_e_87 : GoodIn wm_X11_kind_e (wsV RX11 87 RX10 yX10_addKind wm_X10_addKind_e) := goodIn_w (List.forall_mem_append.mpr ⟨List.forall_mem_cons.mpr ⟨List.mem_cons_of_mem _ (List.mem_append_left _ (List.mem_append_left _ (List.mem_of_getElem? (i := 8) rfl))), List.forall_mem_cons.mpr ⟨List.mem_cons_of_mem _ (List.mem_append_left _ (List.mem_append_left _ (List.mem_of_getElem? (i := 9) rfl))), List.forall_mem_cons.mpr ⟨List.mem_cons_of_mem _ (List.mem_append_left _ (List.mem_append_left _ (List.mem_of_getElem? (i := 10) rfl))), List.forall_mem_cons.mpr ⟨List.mem_cons_of_mem _ (List.mem_append_left _ (List.mem_append_left _ (List.mem_of_getElem? (i := 4) rfl))), (fun _ h => absurd h List.not_mem_nil)⟩⟩⟩⟩, List.forall_mem_cons.mpr ⟨List.mem_cons_of_mem _ (List.mem_append_left _ (List.mem_append_left _ (List.mem_of_getElem? (i := 11) rfl))), List.forall_mem_append.mpr ⟨List.forall_mem_cons.mpr ⟨List.mem_cons_of_mem _ (List.mem_append_left _ (List.mem_append_left _ (List.mem_of_getElem? (i := 12) rfl))), List.forall_mem_cons.mpr ⟨List.mem_cons_of_mem _ (List.mem_append_left _ (List.mem_append_left _ (List.mem_of_getElem? (i := 6) rfl))), List.forall_mem_cons.mpr ⟨List.mem_cons_of_mem _ (List.mem_append_left _ (List.mem_append_left _ (List.mem_of_getElem? (i := 13) rfl))), (fun _ h => absurd h List.not_mem_nil)⟩⟩⟩, (fun _ h => List.mem_cons_of_mem _ (List.mem_append_right _ h))⟩⟩⟩) (by decide +kernel)
set_option maxHeartbeats 4000000 in
set_option maxRecDepth 100000 in
theorem x_X11_kind_e (l : Launch) (D : va_G) (sz : Nat) (sk : Value) (a : Nat → Nat) (t : Nat → ClassId) (i : Nat → Int32) (q : Int64) (c : Nat → Nat → Int32) (d : Nat → Nat → Int64) (k1 : Int32) (hI : xInv i c) : Met l yX11_kind wm_X11_kind_e ({ frames := 1, cells := 0, slots := 0, locals := 21 }) (va_Pc [.ref (a 100), .int k1] (yB (a 186) D sz (xwT sk a t i q c d) (xtT t))) (va_Qi (fun (r : Int32) (u : MS) => True ∧ xInv u.1 u.2.2.1 ∧ (∀ k, k ∉ ([110] : List Nat) → u.1 k = i k) ∧ (∀ k, k ∉ ([105, 106] : List Nat) → u.2.2.1 k = c k) ∧ ((¬ (0 ≤ k1.toInt ∧ k1.toInt < (i 110).toInt) ∧ r.toInt = -1 ∧ (u.1 110).toInt = (i 110).toInt) ∨ (0 ≤ k1.toInt ∧ k1.toInt < (i 110).toInt ∧ 24 ≤ (i 110).toInt ∧ r.toInt = -2 ∧ (u.1 110).toInt = (i 110).toInt) ∨ (0 ≤ k1.toInt ∧ k1.toInt < (i 110).toInt ∧ (i 110).toInt ≤ 23 ∧ r.toInt = (i 110).toInt ∧ (u.1 110).toInt = (i 110).toInt + 1)) ∧ (KU (c 105) (u.2.2.1 105) k1 (i 110)) ∧ (KS (c 106) (u.2.2.1 106) k1 (i 110))) (oC D (va_A (xwT sk a t i q c d) sz) (fun u : MS => xwT sk a t u.1 u.2.1 u.2.2.1 u.2.2.2) (fun _ => [])) (va_A (xwT sk a t i q c d) sz)) 0 0 (va_A (xwT sk a t i q c d) sz) := by
  refine Met.ofW (cc := cX11_kind) (maxL := 2) (ret := (some .int)) (by decide +kernel) rfl ?_
  intro p e s m args below meth cd s₁ B hml hv
  obtain ⟨rfl, ⟨hsz, hP, hK, hD0⟩, hN, hZ, hBW⟩ := hv
  have hx := B.exec
  have hb := B.bytes
  have hr := B.returns
  have hts := atoms_spec (ws := wm_X11_kind_e) B.pre
  have hown : s.vm.findClass RX11 = some m.cls := findClass_of_methodNamed B.named
  have hlocks := B.notSynchronized
  subst hsz
  have hD := hD0.self (sz := s.heap.size)
  have hZ := xZ_A hZ hP hBW
  generalize hAe : va_A (xwT sk a t i q c d) s.heap.size = A at hD hZ ⊢
  have hA : ∀ q : Nat, s.heap.size ≤ q → A q := fun q h => by rw [← hAe]; exact Or.inr h
  have hS : va_S A s.heap s.heap [] := va_S.rf
  have hfi : ∀ k, k ∉ ([] : List Nat) → i k = i k := fun _ _ => rfl
  have hfc : ∀ k, k ∉ ([] : List Nat) → c k = c k := fun _ _ => rfl
  have hl := lv_entry ([.ref (a 100), .int k1]) (n := 2) (Nat.le_of_ble_eq_true rfl)
  rw [lg_entry_eq]
  generalize (lg_sl ([.ref (a 100), .int k1]) ++ List.replicate (2 - (lg_sl ([.ref (a 100), .int k1])).length) Slot.unset).toArray = ls at hl ⊢
  have hl : lv_has ls 2 [(0, .ref (a 100)), (1, .int k1)] := hl
  have rb110_i : 6 ≤ (i 110).toInt ∧ (i 110).toInt ≤ 24 := hI.1 110
  refine lv_aload_n hx hb dX11_kind_0 rfl (lv_at hl 0 rfl) ?_
  refine xgT_X_world hx hb hts (fun _ h => List.mem_cons_of_mem _ (List.mem_append_left _ (List.mem_append_right _ h))) hown hK hP (hts (.fieldLink RX11 10 "TalePlay" "world" "LTalePlay$World;") (List.mem_cons_of_mem _ (List.mem_append_left _ (List.mem_append_left _ (List.mem_of_getElem? (i := 0) rfl))))) dX11_kind_1 ?_
  refine lv_iload_n hx hb dX11_kind_4 rfl (lv_at hl 1 rfl) ?_
  refine ro_calli (va_runV (As := [.int k1]) (rest := []) ⟨hx, hb, hml, hown, hts⟩ (x_X10_hasKind l D s.heap.size .null a t i q c d k1 hI ) (cwV 1 hts gm_X11_kind_e_X10_hasKind_80 rfl rfl rfl (by decide +kernel) ⟨Nat.le_of_ble_eq_true rfl, Nat.le_of_ble_eq_true rfl⟩) (yA_V hN (xZ_k hZ hS hA) (xkT_W hK) (xuT_W (sk := sk) hP) (ci := 10) (q0 := 0) rfl rfl) rfl rfl hl.1 rfl (lv_room (Nat.le_of_ble_eq_true rfl)) dX11_kind_5 ⟨Nat.le_of_ble_eq_true rfl, Nat.le_of_ble_eq_true rfl⟩) hS hA hP (fun r1 u1 H locs hw1 hP hS => ?_)
  have hw1 : r1 = if (0 ≤ k1.toInt ∧ k1.toInt < (i 110).toInt) then 1 else 0 := hw1
  refine lv_if_ne (tgt := 13) hx hb dX11_kind_8 (by decide +kernel) (fun c2 => ?_) (fun c2 => ?_)
  · have f2 := fl_t hw1 c2
    refine lv_aload_n hx hb dX11_kind_13 rfl (lv_at hl 0 rfl) ?_
    refine xgT_X_world hx hb hts (fun _ h => List.mem_cons_of_mem _ (List.mem_append_left _ (List.mem_append_right _ h))) hown hK hP (hts (.fieldLink RX11 10 "TalePlay" "world" "LTalePlay$World;") (List.mem_cons_of_mem _ (List.mem_append_left _ (List.mem_append_left _ (List.mem_of_getElem? (i := 0) rfl))))) dX11_kind_14 ?_
    refine xgT_W_kinds (v := (i 110)) rfl hx hb hts (fun _ h => List.mem_cons_of_mem _ (List.mem_append_right _ h)) hown hK hP (hts (.fieldLink RX11 84 "TalePlay$World" "kinds" "I") (List.mem_cons_of_mem _ (List.mem_append_left _ (List.mem_append_left _ (List.mem_of_getElem? (i := 7) rfl))))) dX11_kind_17 ?_
    refine lv_bipush (v := 24) hx hb dX11_kind_20 (by decide +kernel) ?_
    refine lv_icmp_lt (tgt := 28) hx hb dX11_kind_22 (by decide +kernel) (fun c3 => ?_) (fun c3 => ?_)
    · have f3 := (ti_lt (a := (i 110).toInt) (b := 24) rfl (by decide +kernel)).mp c3
      refine lv_aload_n hx hb dX11_kind_28 rfl (lv_at hl 0 rfl) ?_
      refine xgT_X_world hx hb hts (fun _ h => List.mem_cons_of_mem _ (List.mem_append_left _ (List.mem_append_right _ h))) hown hK hP (hts (.fieldLink RX11 10 "TalePlay" "world" "LTalePlay$World;") (List.mem_cons_of_mem _ (List.mem_append_left _ (List.mem_append_left _ (List.mem_of_getElem? (i := 0) rfl))))) dX11_kind_29 ?_
      refine lv_iload_n hx hb dX11_kind_32 rfl (lv_at hl 1 rfl) ?_
      refine al_calli (va_runV (As := [.int k1]) (rest := []) ⟨hx, hb, hml, hown, hts⟩ (x_X10_addKind_e l D H.size sk a t i q c d k1 hI (show 0 ≤ k1.toInt ∧ k1.toInt ≤ 23 from by omega) (show ((i 110) : Int32).toInt ≤ 23 from by omega)) (cwV 1 hts gm_X11_kind_e_X10_addKind_e_87 rfl rfl rfl (by decide +kernel) ⟨Nat.le_of_ble_eq_true rfl, Nat.le_of_ble_eq_true rfl⟩) (yB_V hN (xZ_k hZ hS hA) (xZ_n hZ hD) hK hP hD (ci := 10) (q0 := 2) rfl rfl) rfl rfl hl.1 rfl (lv_room (Nat.le_of_ble_eq_true rfl)) dX11_kind_33 ⟨Nat.le_of_ble_eq_true rfl, Nat.le_of_ble_eq_true rfl⟩) hS hA hP hD (fun r4 u4 H locs hw4 hP hD hS => ?_)
      obtain ⟨i4, q4, c4, d4⟩ := u4
      have hw4 : (r4.toInt = (i 110).toInt) ∧ xInv i4 c4 ∧ (∀ k, k ∉ ([110] : List Nat) → i4 k = i k) ∧ (∀ k, k ∉ ([105, 106] : List Nat) → c4 k = c k) ∧ ((i4 110).toInt = (i 110).toInt + 1) ∧ ((c4 105) = upd (c 105) (i 110).toNatClampNeg k1) ∧ ((c4 106) = upd (c 106) (i 110).toNatClampNeg (c 106 k1.toNatClampNeg)) := hw4
      obtain ⟨hw4, hI, hei4, hec4, hxp4_0, hxp4_1, hxp4_2⟩ := hw4
      have hxp4_0 : (i4 110).toInt = (i 110).toInt + 1 := hxp4_0
      have hxp4_1 : (c4 105) = upd (c 105) (i 110).toNatClampNeg k1 := hxp4_1
      have hxp4_2 : (c4 106) = upd (c 106) (i 110).toNatClampNeg (c 106 k1.toNatClampNeg) := hxp4_2
      have hfi : ∀ k, k ∉ ([110] : List Nat) → i4 k = i k := fr_z hfi hei4 (by decide +kernel) (by decide +kernel)
      have hfc : ∀ k, k ∉ ([105, 106] : List Nat) → c4 k = c k := fr_z hfc hec4 (by decide +kernel) (by decide +kernel)
      exact rw_iret (i4, q4, c4, d4) hx hb hr hlocks hS (hK.sub (tys' := []) [] rfl) hP hD dX11_kind_36 ⟨trivial, hI, fr_w hfi (by decide +kernel), fr_w hfc (by decide +kernel), (show (¬ (0 ≤ k1.toInt ∧ k1.toInt < (i 110).toInt) ∧ (r4 : Int32).toInt = -1 ∧ ((i4 110) : Int32).toInt = (i 110).toInt) ∨ (0 ≤ k1.toInt ∧ k1.toInt < (i 110).toInt ∧ 24 ≤ (i 110).toInt ∧ (r4 : Int32).toInt = -2 ∧ ((i4 110) : Int32).toInt = (i 110).toInt) ∨ (0 ≤ k1.toInt ∧ k1.toInt < (i 110).toInt ∧ (i 110).toInt ≤ 23 ∧ (r4 : Int32).toInt = (i 110).toInt ∧ ((i4 110) : Int32).toInt = (i 110).toInt + 1) from by omega), (show KU (c 105) (c4 105) k1 (i 110) from Or.inr ⟨by omega, by omega, by omega, hxp4_1⟩), (show KS (c 106) (c4 106) k1 (i 110) from Or.inr ⟨by omega, by omega, by omega, hxp4_2⟩)⟩
    · have f3 := mt (ti_lt (a := (i 110).toInt) (b := 24) rfl (by decide +kernel)).mpr c3
      refine lv_bipush (v := (-2)) hx hb dX11_kind_25 (by decide +kernel) ?_
      exact rw_iret (i, q, c, d) hx hb hr hlocks hS (hK.sub (tys' := []) [] rfl) hP hD dX11_kind_27 ⟨trivial, hI, fr_w hfi (by decide +kernel), fr_w hfc (by decide +kernel), (show (¬ (0 ≤ k1.toInt ∧ k1.toInt < (i 110).toInt) ∧ ((-2) : Int32).toInt = -1 ∧ ((i 110) : Int32).toInt = (i 110).toInt) ∨ (0 ≤ k1.toInt ∧ k1.toInt < (i 110).toInt ∧ 24 ≤ (i 110).toInt ∧ ((-2) : Int32).toInt = -2 ∧ ((i 110) : Int32).toInt = (i 110).toInt) ∨ (0 ≤ k1.toInt ∧ k1.toInt < (i 110).toInt ∧ (i 110).toInt ≤ 23 ∧ ((-2) : Int32).toInt = (i 110).toInt ∧ ((i 110) : Int32).toInt = (i 110).toInt + 1) from by have h53 : ((-2) : Int32).toInt = -2 := (by decide +kernel); omega), (show KU (c 105) (c 105) k1 (i 110) from Or.inl ⟨by omega, rfl⟩), (show KS (c 106) (c 106) k1 (i 110) from Or.inl ⟨by omega, rfl⟩)⟩
  · have f2 := fl_f hw1 c2
    refine lv_iconst (v := (-1)) hx hb dX11_kind_11 (by decide +kernel) ?_
    exact rw_iret (i, q, c, d) hx hb hr hlocks hS (hK.sub (tys' := []) [] rfl) hP hD dX11_kind_12 ⟨trivial, hI, fr_w hfi (by decide +kernel), fr_w hfc (by decide +kernel), (show (¬ (0 ≤ k1.toInt ∧ k1.toInt < (i 110).toInt) ∧ ((-1) : Int32).toInt = -1 ∧ ((i 110) : Int32).toInt = (i 110).toInt) ∨ (0 ≤ k1.toInt ∧ k1.toInt < (i 110).toInt ∧ 24 ≤ (i 110).toInt ∧ ((-1) : Int32).toInt = -2 ∧ ((i 110) : Int32).toInt = (i 110).toInt) ∨ (0 ≤ k1.toInt ∧ k1.toInt < (i 110).toInt ∧ (i 110).toInt ≤ 23 ∧ ((-1) : Int32).toInt = (i 110).toInt ∧ ((i 110) : Int32).toInt = (i 110).toInt + 1) from by have h53 : ((-1) : Int32).toInt = -1 := (by decide +kernel); omega), (show KU (c 105) (c 105) k1 (i 110) from Or.inl ⟨by omega, rfl⟩), (show KS (c 106) (c 106) k1 (i 110) from Or.inl ⟨by omega, rfl⟩)⟩

set_option maxHeartbeats 4000000 in
set_option maxRecDepth 100000 in
theorem s_X12_kind_e (l : Launch) (D : va_G) (sz : Nat) (o : Nat) (a : Nat → Nat) (t : Nat → ClassId) (i : Nat → Int32) (q : Int64) (c : Nat → Nat → Int32) (d : Nat → Nat → Int64) (p1 : Int32) (hI : mInv i c) (hs_S : SJ (c 3) (c 6) (c 9) (c 10) (c 11) (c 13) (i 2).toInt (i 5).toInt (i 8).toInt) (hs_J : TJ (c 3) (c 6) (c 23) (c 24) (c 29) (c 30) (i 5).toInt (i 22).toInt (i 27).toInt) : Met l yX12_kind wm_X12_kind ({ frames := 1, cells := 0, slots := 0, locals := 25 }) (va_Pc [.ref o, .int p1] (pB D sz (mW o a t i q c d) (mT t))) (va_Qi (fun (r : Int32) (u : MS) => True ∧ mInv u.1 u.2.2.1 ∧ (∀ k, k ∉ ([2] : List Nat) → u.1 k = i k) ∧ (∀ k, k ∉ ([3] : List Nat) → u.2.2.1 k = c k) ∧ (SJ (u.2.2.1 3) (u.2.2.1 6) (u.2.2.1 9) (u.2.2.1 10) (u.2.2.1 11) (u.2.2.1 13) (u.1 2).toInt (u.1 5).toInt (u.1 8).toInt) ∧ (TJ (u.2.2.1 3) (u.2.2.1 6) (u.2.2.1 23) (u.2.2.1 24) (u.2.2.1 29) (u.2.2.1 30) (u.1 5).toInt (u.1 22).toInt (u.1 27).toInt) ∧ ((¬ (0 ≤ p1.toInt ∧ p1.toInt < (i 2).toInt) ∧ r.toInt = -1 ∧ (u.1 2).toInt = (i 2).toInt) ∨ (0 ≤ p1.toInt ∧ p1.toInt < (i 2).toInt ∧ 24 ≤ (i 2).toInt ∧ r.toInt = -2 ∧ (u.1 2).toInt = (i 2).toInt) ∨ (0 ≤ p1.toInt ∧ p1.toInt < (i 2).toInt ∧ (i 2).toInt ≤ 23 ∧ r.toInt = (i 2).toInt ∧ (u.1 2).toInt = (i 2).toInt + 1)) ∧ (KU (c 3) (u.2.2.1 3) p1 (i 2))) (oC D (va_A (mW o a t i q c d) sz) (fun u : MS => mW o a t u.1 u.2.1 u.2.2.1 u.2.2.2) (fun _ => [])) (va_A (mW o a t i q c d) sz)) 0 0 (va_A (mW o a t i q c d) sz) := by
  refine Met.ofW (cc := cX12_kind) (maxL := 2) (ret := (some .int)) (by decide +kernel) rfl ?_
  intro p e s m args below meth cd s₁ B hml hv
  obtain ⟨rfl, hsz, hP, hK, hD0⟩ := hv
  have hx := B.exec
  have hb := B.bytes
  have hr := B.returns
  have hts := atoms_spec (ws := wm_X12_kind) B.pre
  have hown : s.vm.findClass RX12 = some m.cls := findClass_of_methodNamed B.named
  have hlocks := B.notSynchronized
  subst hsz
  have hD := hD0.self (sz := s.heap.size)
  generalize hAe : va_A (mW o a t i q c d) s.heap.size = A at hD ⊢
  have hA : ∀ q : Nat, s.heap.size ≤ q → A q := fun q h => by rw [← hAe]; exact Or.inr h
  have hS : va_S A s.heap s.heap [] := va_S.rf
  have hfi : ∀ k, k ∉ ([] : List Nat) → i k = i k := fun _ _ => rfl
  have hfc : ∀ k, k ∉ ([] : List Nat) → c k = c k := fun _ _ => rfl
  have hl := lv_entry ([.ref o, .int p1]) (n := 2) (Nat.le_of_ble_eq_true rfl)
  rw [lg_entry_eq]
  generalize (lg_sl ([.ref o, .int p1]) ++ List.replicate (2 - (lg_sl ([.ref o, .int p1])).length) Slot.unset).toArray = ls at hl ⊢
  have hl : lv_has ls 2 [(0, .ref o), (1, .int p1)] := hl
  have hI0 := hI
  have rb2_i : 6 ≤ (i 2).toInt ∧ (i 2).toInt ≤ 24 := hI.1 2
  refine lv_iload_n hx hb dX12_kind_0 rfl (lv_at hl 1 rfl) ?_
  refine lv_i2l (v := p1.toInt64) hx hb dX12_kind_1 rfl ?_
  refine lv_lconst (v := 0) hx hb dX12_kind_2 (by decide +kernel) ?_
  refine lv_aload_n hx hb dX12_kind_3 rfl (lv_at hl 0 rfl) ?_
  refine mget_2 (v := (i 2)) rfl hx hb hts (fun _ h => List.mem_cons_of_mem _ (List.mem_append_right _ h)) hown hK hP (hts (.fieldLink RX12 151 "TalePlayModel" "kinds" "I") (List.mem_cons_of_mem _ (List.mem_append_left _ (List.mem_of_getElem? (i := 0) rfl)))) dX12_kind_4 ?_
  refine lv_iconst (v := 1) hx hb dX12_kind_7 (by decide +kernel) ?_
  refine lv_isub hx hb dX12_kind_8 ?_
  refine lv_topi (fun x1 ex1 => ?_)
  have tx1 := ti_sub (a := (i 2).toInt) (b := 1) ex1 rfl (by decide +kernel) (by omega) (by omega)
  refine lv_i2l (v := x1.toInt64) hx hb dX12_kind_9 rfl ?_
  have hPc := hP.sub (ws' := []) [] rfl
  have hKc := hK.sub (tys' := []) [] rfl
  refine ro_calli (va_runS (As := [.long p1.toInt64, .long 0, .long x1.toInt64]) (rest := []) ⟨hx, hb, hml, hown, hts⟩ (c_X12_in l D s.heap.size p1.toInt64 0 x1.toInt64 p1.toInt 0 ((i 2).toInt - 1) ((Int32.toInt_toInt64 p1).trans rfl) (by decide +kernel) ((Int32.toInt_toInt64 x1).trans tx1)) (va_cwS 3 hts gm_X12_kind_X12_in rfl rfl rfl (by decide +kernel) ⟨Nat.le_of_ble_eq_true rfl, Nat.le_of_ble_eq_true rfl⟩) (pA_S hKc hPc) rfl rfl hl.1 rfl (lv_room (Nat.le_of_ble_eq_true rfl)) dX12_kind_10 ⟨Nat.le_of_ble_eq_true rfl, Nat.le_of_ble_eq_true rfl⟩) hS hA hP (fun r2 u2 H locs hw2 hP hS => ?_)
  have hw2 : r2 = if (0 ≤ p1.toInt ∧ p1.toInt ≤ ((i 2).toInt - 1)) then 1 else 0 := hw2
  refine lv_if_ne (tgt := 18) hx hb dX12_kind_13 (by decide +kernel) (fun c3 => ?_) (fun c3 => ?_)
  · have f3 := fl_t hw2 c3
    refine lv_aload_n hx hb dX12_kind_18 rfl (lv_at hl 0 rfl) ?_
    refine mget_2 (v := (i 2)) rfl hx hb hts (fun _ h => List.mem_cons_of_mem _ (List.mem_append_right _ h)) hown hK hP (hts (.fieldLink RX12 151 "TalePlayModel" "kinds" "I") (List.mem_cons_of_mem _ (List.mem_append_left _ (List.mem_of_getElem? (i := 0) rfl)))) dX12_kind_19 ?_
    refine lv_bipush (v := 24) hx hb dX12_kind_22 (by decide +kernel) ?_
    refine lv_icmp_ne (tgt := 30) hx hb dX12_kind_24 (by decide +kernel) (fun c4 => ?_) (fun c4 => ?_)
    · have f4 := mt (ti_eq (a := (i 2).toInt) (b := 24) rfl (by decide +kernel)).mpr c4
      refine lv_aload_n hx hb dX12_kind_30 rfl (lv_at hl 0 rfl) ?_
      refine mget_3 hx hb hts (fun _ h => List.mem_cons_of_mem _ (List.mem_append_right _ h)) hown hK hP (hts (.fieldLink RX12 13 "TalePlayModel" "parentOf" "[I") (List.mem_cons_of_mem _ (List.mem_append_left _ (List.mem_of_getElem? (i := 5) rfl)))) dX12_kind_31 ?_
      refine lv_aload_n hx hb dX12_kind_34 rfl (lv_at hl 0 rfl) ?_
      refine mget_2 (v := (i 2)) rfl hx hb hts (fun _ h => List.mem_cons_of_mem _ (List.mem_append_right _ h)) hown hK hP (hts (.fieldLink RX12 151 "TalePlayModel" "kinds" "I") (List.mem_cons_of_mem _ (List.mem_append_left _ (List.mem_of_getElem? (i := 0) rfl)))) dX12_kind_35 ?_
      refine lv_iload_n hx hb dX12_kind_38 rfl (lv_at hl 1 rfl) ?_
      have rc5 : ((((i 2) : Int32).toNatClampNeg : Nat) : Int) = ((i 2) : Int32).toInt := cl_nn (by have h9 : (i 2).toInt = (i 2).toInt := rfl; omega)
      refine mst_3 hx hb hK hP hD hS (vp_in_iff.mpr (by have h9 : (i 2).toInt = (i 2).toInt := rfl; omega)) dX12_kind_39 (fun H locs hP hD hS => ?_)
      have hI := mInv_c hI (k := 3) (j := ((i 2) : Int32).toNatClampNeg) (x := p1) (show (((((i 2) : Int32).toNatClampNeg : Nat) : Int) ≤ 1 ∧ (p1 : Int32).toInt = -9) ∨ (2 ≤ ((((i 2) : Int32).toNatClampNeg : Nat) : Int) ∧ ((((i 2) : Int32).toNatClampNeg : Nat) : Int) ≤ 5 ∧ (p1 : Int32).toInt = 1) ∨ (6 ≤ ((((i 2) : Int32).toNatClampNeg : Nat) : Int) ∧ 0 ≤ (p1 : Int32).toInt ∧ (p1 : Int32).toInt ≤ 23 ∧ (p1 : Int32).toInt < ((((i 2) : Int32).toNatClampNeg : Nat) : Int)) from by omega)
      have hfc : ∀ k, k ∉ ([3] : List Nat) → (updA c 3 ((i 2) : Int32).toNatClampNeg p1) k = c k := fr_cz hfc (by decide +kernel) (by decide +kernel)
      refine lv_aload_n hx hb dX12_kind_40 rfl (lv_at hl 0 rfl) ?_
      refine lv_dup hx hb dX12_kind_41 rfl ?_
      refine mget_2 (v := (i 2)) rfl hx hb hts (fun _ h => List.mem_cons_of_mem _ (List.mem_append_right _ h)) hown hK hP (hts (.fieldLink RX12 151 "TalePlayModel" "kinds" "I") (List.mem_cons_of_mem _ (List.mem_append_left _ (List.mem_of_getElem? (i := 0) rfl)))) dX12_kind_42 ?_
      refine lv_iconst (v := 1) hx hb dX12_kind_45 (by decide +kernel) ?_
      refine lv_iadd hx hb dX12_kind_46 ?_
      refine lv_topi (fun x6 ex6 => ?_)
      have tx6 := ti_add (a := (i 2).toInt) (b := 1) ex6 rfl (by decide +kernel) (by omega) (by omega)
      refine mput_2 hx hb hts (fun _ h => List.mem_cons_of_mem _ (List.mem_append_right _ h)) hown hK hP hD hS (hts (.fieldLink RX12 151 "TalePlayModel" "kinds" "I") (List.mem_cons_of_mem _ (List.mem_append_left _ (List.mem_of_getElem? (i := 0) rfl)))) rfl rfl dX12_kind_47 (fun H locs hP hD hS => ?_)
      have hI := mInv_i hI (k := 2) (v := x6) (show 6 ≤ (x6 : Int32).toInt ∧ (x6 : Int32).toInt ≤ 24 from by have h9 : x6.toInt = ((i 2).toInt + 1) := tx6; omega)
      have hfi : ∀ k, k ∉ ([2] : List Nat) → (upd i 2 x6) k = i k := fr_iz hfi (by decide +kernel) (by decide +kernel)
      refine lv_aload_n hx hb dX12_kind_50 rfl (lv_at hl 0 rfl) ?_
      refine mget_2 (i := (upd i 2 x6)) (v := x6) rfl hx hb hts (fun _ h => List.mem_cons_of_mem _ (List.mem_append_right _ h)) hown hK hP (hts (.fieldLink RX12 151 "TalePlayModel" "kinds" "I") (List.mem_cons_of_mem _ (List.mem_append_left _ (List.mem_of_getElem? (i := 0) rfl)))) dX12_kind_51 ?_
      refine lv_iconst (v := 1) hx hb dX12_kind_54 (by decide +kernel) ?_
      refine lv_isub hx hb dX12_kind_55 ?_
      refine lv_topi (fun x7 ex7 => ?_)
      have tx7 := ti_sub (a := ((i 2).toInt + 1)) (b := 1) ex7 tx6 (by decide +kernel) (by omega) (by omega)
      exact rw_iret ((upd i 2 x6), q, (updA c 3 ((i 2) : Int32).toNatClampNeg p1), d) hx hb hr hlocks hS (hK.sub (tys' := []) [] rfl) hP hD dX12_kind_56 ⟨trivial, hI, fr_w hfi (by decide +kernel), fr_w hfc (by decide +kernel), (show SJ ((updA c 3 ((i 2) : Int32).toNatClampNeg p1) 3) ((updA c 3 ((i 2) : Int32).toNatClampNeg p1) 6) ((updA c 3 ((i 2) : Int32).toNatClampNeg p1) 9) ((updA c 3 ((i 2) : Int32).toNatClampNeg p1) 10) ((updA c 3 ((i 2) : Int32).toNatClampNeg p1) 11) ((updA c 3 ((i 2) : Int32).toNatClampNeg p1) 13) (x6 : Int32).toInt ((i 5) : Int32).toInt ((i 8) : Int32).toInt from by show SJ (upd (c 3) ((i 2) : Int32).toNatClampNeg p1) (c 6) (c 9) (c 10) (c 11) (c 13) x6.toInt (i 5).toInt (i 8).toInt; rw [tx6]; exact SJ_kind (kn := (i 2).toInt) hs_S (fun j _ => mI_pa hI0 j) (by omega) (mI_ko hI0) (mI_le hI0) (fun o => (mI_mi hI0 o).1)), (show TJ ((updA c 3 ((i 2) : Int32).toNatClampNeg p1) 3) ((updA c 3 ((i 2) : Int32).toNatClampNeg p1) 6) ((updA c 3 ((i 2) : Int32).toNatClampNeg p1) 23) ((updA c 3 ((i 2) : Int32).toNatClampNeg p1) 24) ((updA c 3 ((i 2) : Int32).toNatClampNeg p1) 29) ((updA c 3 ((i 2) : Int32).toNatClampNeg p1) 30) ((i 5) : Int32).toInt ((i 22) : Int32).toInt ((i 27) : Int32).toInt from by show TJ (upd (c 3) ((i 2) : Int32).toNatClampNeg p1) (c 6) (c 23) (c 24) (c 29) (c 30) (i 5).toInt (i 22).toInt (i 27).toInt; exact TJ_kind (kn := (i 2).toInt) hs_J hs_S.1 (fun j _ => mI_pa hI0 j) (by omega) (mI_ko hI0)), (show (¬ (0 ≤ p1.toInt ∧ p1.toInt < (i 2).toInt) ∧ (x7 : Int32).toInt = -1 ∧ (x6 : Int32).toInt = (i 2).toInt) ∨ (0 ≤ p1.toInt ∧ p1.toInt < (i 2).toInt ∧ 24 ≤ (i 2).toInt ∧ (x7 : Int32).toInt = -2 ∧ (x6 : Int32).toInt = (i 2).toInt) ∨ (0 ≤ p1.toInt ∧ p1.toInt < (i 2).toInt ∧ (i 2).toInt ≤ 23 ∧ (x7 : Int32).toInt = (i 2).toInt ∧ (x6 : Int32).toInt = (i 2).toInt + 1) from by have h50 : x6.toInt = ((i 2).toInt + 1) := tx6; have h51 : x6.toInt = ((i 2).toInt + 1) := tx6; have h52 : x6.toInt = ((i 2).toInt + 1) := tx6; have h53 : x7.toInt = (((i 2).toInt + 1) - 1) := tx7; omega), (show KU (c 3) ((updA c 3 ((i 2) : Int32).toNatClampNeg p1) 3) p1 (i 2) from Or.inr ⟨by omega, by omega, by omega, rfl⟩)⟩
    · have f4 := (ti_eq (a := (i 2).toInt) (b := 24) rfl (by decide +kernel)).mp c4
      refine lv_bipush (v := (-2)) hx hb dX12_kind_27 (by decide +kernel) ?_
      exact rw_iret (i, q, c, d) hx hb hr hlocks hS (hK.sub (tys' := []) [] rfl) hP hD dX12_kind_29 ⟨trivial, hI, fr_w hfi (by decide +kernel), fr_w hfc (by decide +kernel), (show SJ (c 3) (c 6) (c 9) (c 10) (c 11) (c 13) ((i 2) : Int32).toInt ((i 5) : Int32).toInt ((i 8) : Int32).toInt from hs_S), (show TJ (c 3) (c 6) (c 23) (c 24) (c 29) (c 30) ((i 5) : Int32).toInt ((i 22) : Int32).toInt ((i 27) : Int32).toInt from hs_J), (show (¬ (0 ≤ p1.toInt ∧ p1.toInt < (i 2).toInt) ∧ ((-2) : Int32).toInt = -1 ∧ ((i 2) : Int32).toInt = (i 2).toInt) ∨ (0 ≤ p1.toInt ∧ p1.toInt < (i 2).toInt ∧ 24 ≤ (i 2).toInt ∧ ((-2) : Int32).toInt = -2 ∧ ((i 2) : Int32).toInt = (i 2).toInt) ∨ (0 ≤ p1.toInt ∧ p1.toInt < (i 2).toInt ∧ (i 2).toInt ≤ 23 ∧ ((-2) : Int32).toInt = (i 2).toInt ∧ ((i 2) : Int32).toInt = (i 2).toInt + 1) from by have h53 : ((-2) : Int32).toInt = -2 := (by decide +kernel); omega), (show KU (c 3) (c 3) p1 (i 2) from Or.inl ⟨by omega, rfl⟩)⟩
  · have f3 := fl_f hw2 c3
    refine lv_iconst (v := (-1)) hx hb dX12_kind_16 (by decide +kernel) ?_
    exact rw_iret (i, q, c, d) hx hb hr hlocks hS (hK.sub (tys' := []) [] rfl) hP hD dX12_kind_17 ⟨trivial, hI, fr_w hfi (by decide +kernel), fr_w hfc (by decide +kernel), (show SJ (c 3) (c 6) (c 9) (c 10) (c 11) (c 13) ((i 2) : Int32).toInt ((i 5) : Int32).toInt ((i 8) : Int32).toInt from hs_S), (show TJ (c 3) (c 6) (c 23) (c 24) (c 29) (c 30) ((i 5) : Int32).toInt ((i 22) : Int32).toInt ((i 27) : Int32).toInt from hs_J), (show (¬ (0 ≤ p1.toInt ∧ p1.toInt < (i 2).toInt) ∧ ((-1) : Int32).toInt = -1 ∧ ((i 2) : Int32).toInt = (i 2).toInt) ∨ (0 ≤ p1.toInt ∧ p1.toInt < (i 2).toInt ∧ 24 ≤ (i 2).toInt ∧ ((-1) : Int32).toInt = -2 ∧ ((i 2) : Int32).toInt = (i 2).toInt) ∨ (0 ≤ p1.toInt ∧ p1.toInt < (i 2).toInt ∧ (i 2).toInt ≤ 23 ∧ ((-1) : Int32).toInt = (i 2).toInt ∧ ((i 2) : Int32).toInt = (i 2).toInt + 1) from by have h53 : ((-1) : Int32).toInt = -1 := (by decide +kernel); omega), (show KU (c 3) (c 3) p1 (i 2) from Or.inl ⟨by omega, rfl⟩)⟩

def wm_X10_addObject_e : List Cond := .code yX10_addObject cX10_addObject 3 (some .int) :: (([.fieldLink RX10 21 "TalePlay$World" "kindOf" "[I", .fieldLink RX10 37 "TalePlay$World" "objects" "I", .fieldLink RX10 24 "TalePlay$World" "sizeOf" "[I"] : List Cond) ++ wsX100)
set_option maxHeartbeats 4000000 in
set_option maxRecDepth 100000 in
theorem x_X10_addObject_e (l : Launch) (D : va_G) (sz : Nat) (sk : Value) (a : Nat → Nat) (t : Nat → ClassId) (i : Nat → Int32) (q : Int64) (c : Nat → Nat → Int32) (d : Nat → Nat → Int64) (k1 : Int32) (s1 : Int32) (hI : xInv i c) (hk1 : 0 ≤ k1.toInt ∧ k1.toInt ≤ 23) (hs1 : 0 ≤ s1.toInt ∧ s1.toInt ≤ 99) (hon : (i 111).toInt ≤ 29) : Met l yX10_addObject wm_X10_addObject_e ({ frames := 0, cells := 0, slots := 0, locals := 0 }) (va_Pc [.ref (a 104), .int k1, .int s1] (yB (a 186) D sz (xwT sk a t i q c d) (xtT t))) (va_Qi (fun (r : Int32) (u : MS) => (r.toInt = (i 111).toInt) ∧ xInv u.1 u.2.2.1 ∧ (∀ k, k ∉ ([111] : List Nat) → u.1 k = i k) ∧ (∀ k, k ∉ ([108, 109] : List Nat) → u.2.2.1 k = c k) ∧ ((u.1 111).toInt = (i 111).toInt + 1) ∧ ((u.2.2.1 108) = upd (c 108) (i 111).toNatClampNeg k1)) (oC D (va_A (xwT sk a t i q c d) sz) (fun u : MS => xwT sk a t u.1 u.2.1 u.2.2.1 u.2.2.2) (fun _ => [])) (va_A (xwT sk a t i q c d) sz)) 0 0 (va_A (xwT sk a t i q c d) sz) := by
  refine Met.ofW (cc := cX10_addObject) (maxL := 3) (ret := (some .int)) (by decide +kernel) rfl ?_
  intro p e s m args below meth cd s₁ B hml hv
  obtain ⟨rfl, ⟨hsz, hP, hK, hD0⟩, hN, hZ, hBW⟩ := hv
  have hx := B.exec
  have hb := B.bytes
  have hr := B.returns
  have hts := atoms_spec (ws := wm_X10_addObject_e) B.pre
  have hown : s.vm.findClass RX10 = some m.cls := findClass_of_methodNamed B.named
  have hlocks := B.notSynchronized
  subst hsz
  have hD := hD0.self (sz := s.heap.size)
  have hZ := xZ_A hZ hP hBW
  generalize hAe : va_A (xwT sk a t i q c d) s.heap.size = A at hD hZ ⊢
  have hA : ∀ q : Nat, s.heap.size ≤ q → A q := fun q h => by rw [← hAe]; exact Or.inr h
  have hS : va_S A s.heap s.heap [] := va_S.rf
  have hfi : ∀ k, k ∉ ([] : List Nat) → i k = i k := fun _ _ => rfl
  have hfc : ∀ k, k ∉ ([] : List Nat) → c k = c k := fun _ _ => rfl
  have hl := lv_entry ([.ref (a 104), .int k1, .int s1]) (n := 3) (Nat.le_of_ble_eq_true rfl)
  rw [lg_entry_eq]
  generalize (lg_sl ([.ref (a 104), .int k1, .int s1]) ++ List.replicate (3 - (lg_sl ([.ref (a 104), .int k1, .int s1])).length) Slot.unset).toArray = ls at hl ⊢
  have hl : lv_has ls 3 [(0, .ref (a 104)), (1, .int k1), (2, .int s1)] := hl
  refine lv_aload_n hx hb dX10_addObject_0 rfl (lv_at hl 0 rfl) ?_
  refine xgT_W_kindOf hx hb hts (fun _ h => List.mem_cons_of_mem _ (List.mem_append_right _ h)) hown hK hP (hts (.fieldLink RX10 21 "TalePlay$World" "kindOf" "[I") (List.mem_cons_of_mem _ (List.mem_append_left _ (List.mem_of_getElem? (i := 0) rfl)))) dX10_addObject_1 ?_
  refine lv_aload_n hx hb dX10_addObject_4 rfl (lv_at hl 0 rfl) ?_
  refine xgT_W_objects (v := (i 111)) rfl hx hb hts (fun _ h => List.mem_cons_of_mem _ (List.mem_append_right _ h)) hown hK hP (hts (.fieldLink RX10 37 "TalePlay$World" "objects" "I") (List.mem_cons_of_mem _ (List.mem_append_left _ (List.mem_of_getElem? (i := 1) rfl)))) dX10_addObject_5 ?_
  have rb111_i : 0 ≤ (i 111).toInt ∧ (i 111).toInt ≤ 30 := hI.1 111
  refine lv_iload_n hx hb dX10_addObject_8 rfl (lv_at hl 1 rfl) ?_
  refine xsT_108 hx hb hK hP hD hS (vp_in_iff.mpr (by have h9 : (i 111).toInt = (i 111).toInt := rfl; omega)) dX10_addObject_9 (fun H locs hP hD hS => ?_)
  have hI := xInv_c hI (k := 108) (j := ((i 111) : Int32).toNatClampNeg) (x := k1) (show 0 ≤ (k1 : Int32).toInt ∧ (k1 : Int32).toInt ≤ 23 from by omega)
  have hfc : ∀ k, k ∉ ([108] : List Nat) → (updA c 108 ((i 111) : Int32).toNatClampNeg k1) k = c k := fr_cz hfc (by decide +kernel) (by decide +kernel)
  refine lv_aload_n hx hb dX10_addObject_10 rfl (lv_at hl 0 rfl) ?_
  refine xgT_W_sizeOf hx hb hts (fun _ h => List.mem_cons_of_mem _ (List.mem_append_right _ h)) hown hK hP (hts (.fieldLink RX10 24 "TalePlay$World" "sizeOf" "[I") (List.mem_cons_of_mem _ (List.mem_append_left _ (List.mem_of_getElem? (i := 2) rfl)))) dX10_addObject_11 ?_
  refine lv_aload_n hx hb dX10_addObject_14 rfl (lv_at hl 0 rfl) ?_
  refine xgT_W_objects (v := (i 111)) rfl hx hb hts (fun _ h => List.mem_cons_of_mem _ (List.mem_append_right _ h)) hown hK hP (hts (.fieldLink RX10 37 "TalePlay$World" "objects" "I") (List.mem_cons_of_mem _ (List.mem_append_left _ (List.mem_of_getElem? (i := 1) rfl)))) dX10_addObject_15 ?_
  refine lv_iload_n hx hb dX10_addObject_18 rfl (lv_at hl 2 rfl) ?_
  refine xsT_109 hx hb hK hP hD hS (vp_in_iff.mpr (by have h9 : (i 111).toInt = (i 111).toInt := rfl; omega)) dX10_addObject_19 (fun H locs hP hD hS => ?_)
  have hI := xInv_c hI (k := 109) (j := ((i 111) : Int32).toNatClampNeg) (x := s1) (show 0 ≤ (s1 : Int32).toInt ∧ (s1 : Int32).toInt ≤ 99 from by omega)
  have hfc : ∀ k, k ∉ ([108, 109] : List Nat) → (updA (updA c 108 ((i 111) : Int32).toNatClampNeg k1) 109 ((i 111) : Int32).toNatClampNeg s1) k = c k := fr_cz hfc (by decide +kernel) (by decide +kernel)
  refine lv_aload_n hx hb dX10_addObject_20 rfl (lv_at hl 0 rfl) ?_
  refine lv_dup hx hb dX10_addObject_21 rfl ?_
  refine xgT_W_objects (v := (i 111)) rfl hx hb hts (fun _ h => List.mem_cons_of_mem _ (List.mem_append_right _ h)) hown hK hP (hts (.fieldLink RX10 37 "TalePlay$World" "objects" "I") (List.mem_cons_of_mem _ (List.mem_append_left _ (List.mem_of_getElem? (i := 1) rfl)))) dX10_addObject_22 ?_
  refine lv_dup_x1 hx hb dX10_addObject_25 rfl rfl ?_
  refine lv_iconst (v := 1) hx hb dX10_addObject_26 (by decide +kernel) ?_
  refine lv_iadd hx hb dX10_addObject_27 ?_
  refine lv_topi (fun x1 ex1 => ?_)
  have tx1 := ti_add (a := (i 111).toInt) (b := 1) ex1 rfl (by decide +kernel) (by omega) (by omega)
  refine xpT_W_objects hx hb hts (fun _ h => List.mem_cons_of_mem _ (List.mem_append_right _ h)) hown hK hP hD hS (hts (.fieldLink RX10 37 "TalePlay$World" "objects" "I") (List.mem_cons_of_mem _ (List.mem_append_left _ (List.mem_of_getElem? (i := 1) rfl)))) rfl rfl dX10_addObject_28 (fun H locs hP hD hS => ?_)
  have hI := xInv_i hI (k := 111) (v := x1) (show 0 ≤ (x1 : Int32).toInt ∧ (x1 : Int32).toInt ≤ 30 from by have h9 : x1.toInt = ((i 111).toInt + 1) := tx1; omega)
  have hfi : ∀ k, k ∉ ([111] : List Nat) → (upd i 111 x1) k = i k := fr_iz hfi (by decide +kernel) (by decide +kernel)
  exact rw_iret ((upd i 111 x1), q, (updA (updA c 108 ((i 111) : Int32).toNatClampNeg k1) 109 ((i 111) : Int32).toNatClampNeg s1), d) hx hb hr hlocks hS (hK.sub (tys' := []) [] rfl) hP hD dX10_addObject_31 ⟨(show (i 111).toInt = (i 111).toInt from by omega), hI, fr_w hfi (by decide +kernel), fr_w hfc (by decide +kernel), (show (x1 : Int32).toInt = (i 111).toInt + 1 from by have h50 : x1.toInt = ((i 111).toInt + 1) := tx1; omega), (show ((updA (updA c 108 ((i 111) : Int32).toNatClampNeg k1) 109 ((i 111) : Int32).toNatClampNeg s1) 108) = upd (c 108) (i 111).toNatClampNeg k1 from rfl)⟩

def wm_X11_make_e : List Cond := .code yX11_make cX11_make 3 (some .int) :: ((([.fieldLink RX11 10 "TalePlay" "world" "LTalePlay$World;", .methodLink RX11 80 yX10_hasKind, .instanceMethod yX10_hasKind, .selects RX10 yX10_hasKind yX10_hasKind, .initialized RX10, .code yX10_hasKind cX10_hasKind 2 (some .boolean), .fieldLink RX10 33 "TalePlay$World" "kinds" "I", .fieldLink RX11 102 "TalePlay$World" "objects" "I", .fieldLink RX11 46 "TalePlay" "tale" "LTalePlay$Tale;", .methodLink RX11 95 yX9_end, .instanceMethod yX9_end, .selects RX9 yX9_end yX9_end, .initialized RX9, .code yX9_end cX9_end 1 none, .fieldLink RX9 72 "TalePlay$Tale" "there" "Z", .fieldLink RX9 77 "TalePlay$Tale" "turns" "I"] : List Cond) ++ ([.methodLink RX11 105 yX10_addObject, .instanceMethod yX10_addObject, .selects RX10 yX10_addObject yX10_addObject, .code yX10_addObject cX10_addObject 3 (some .int), .fieldLink RX10 21 "TalePlay$World" "kindOf" "[I", .fieldLink RX10 37 "TalePlay$World" "objects" "I", .fieldLink RX10 24 "TalePlay$World" "sizeOf" "[I"] : List Cond)) ++ wsX110 ++ wsX100 ++ wsX90)
set_option maxRecDepth 20000 in
theorem gm_X11_make_e_X10_hasKind_80 : GoodIn wm_X11_make_e (wsV RX11 80 RX10 yX10_hasKind wm_X10_hasKind) := goodIn_w (List.forall_mem_append.mpr ⟨List.forall_mem_cons.mpr ⟨List.mem_cons_of_mem _ (List.mem_append_left _ (List.mem_append_left _ (List.mem_append_left _ (List.mem_append_left _ (List.mem_of_getElem? (i := 1) rfl))))), List.forall_mem_cons.mpr ⟨List.mem_cons_of_mem _ (List.mem_append_left _ (List.mem_append_left _ (List.mem_append_left _ (List.mem_append_left _ (List.mem_of_getElem? (i := 2) rfl))))), List.forall_mem_cons.mpr ⟨List.mem_cons_of_mem _ (List.mem_append_left _ (List.mem_append_left _ (List.mem_append_left _ (List.mem_append_left _ (List.mem_of_getElem? (i := 3) rfl))))), List.forall_mem_cons.mpr ⟨List.mem_cons_of_mem _ (List.mem_append_left _ (List.mem_append_left _ (List.mem_append_left _ (List.mem_append_left _ (List.mem_of_getElem? (i := 4) rfl))))), (fun _ h => absurd h List.not_mem_nil)⟩⟩⟩⟩, List.forall_mem_cons.mpr ⟨List.mem_cons_of_mem _ (List.mem_append_left _ (List.mem_append_left _ (List.mem_append_left _ (List.mem_append_left _ (List.mem_of_getElem? (i := 5) rfl))))), List.forall_mem_append.mpr ⟨List.forall_mem_cons.mpr ⟨List.mem_cons_of_mem _ (List.mem_append_left _ (List.mem_append_left _ (List.mem_append_left _ (List.mem_append_left _ (List.mem_of_getElem? (i := 6) rfl))))), (fun _ h => absurd h List.not_mem_nil)⟩, (fun _ h => List.mem_cons_of_mem _ (List.mem_append_left _ (List.mem_append_right _ h)))⟩⟩⟩) (by decide +kernel)
set_option maxRecDepth 20000 in
theorem gm_X11_make_e_X9_end_95 : GoodIn wm_X11_make_e (wsV RX11 95 RX9 yX9_end wm_X9_end) := goodIn_w (List.forall_mem_append.mpr ⟨List.forall_mem_cons.mpr ⟨List.mem_cons_of_mem _ (List.mem_append_left _ (List.mem_append_left _ (List.mem_append_left _ (List.mem_append_left _ (List.mem_of_getElem? (i := 9) rfl))))), List.forall_mem_cons.mpr ⟨List.mem_cons_of_mem _ (List.mem_append_left _ (List.mem_append_left _ (List.mem_append_left _ (List.mem_append_left _ (List.mem_of_getElem? (i := 10) rfl))))), List.forall_mem_cons.mpr ⟨List.mem_cons_of_mem _ (List.mem_append_left _ (List.mem_append_left _ (List.mem_append_left _ (List.mem_append_left _ (List.mem_of_getElem? (i := 11) rfl))))), List.forall_mem_cons.mpr ⟨List.mem_cons_of_mem _ (List.mem_append_left _ (List.mem_append_left _ (List.mem_append_left _ (List.mem_append_left _ (List.mem_of_getElem? (i := 12) rfl))))), (fun _ h => absurd h List.not_mem_nil)⟩⟩⟩⟩, List.forall_mem_cons.mpr ⟨List.mem_cons_of_mem _ (List.mem_append_left _ (List.mem_append_left _ (List.mem_append_left _ (List.mem_append_left _ (List.mem_of_getElem? (i := 13) rfl))))), List.forall_mem_append.mpr ⟨List.forall_mem_cons.mpr ⟨List.mem_cons_of_mem _ (List.mem_append_left _ (List.mem_append_left _ (List.mem_append_left _ (List.mem_append_left _ (List.mem_of_getElem? (i := 14) rfl))))), List.forall_mem_cons.mpr ⟨List.mem_cons_of_mem _ (List.mem_append_left _ (List.mem_append_left _ (List.mem_append_left _ (List.mem_append_left _ (List.mem_of_getElem? (i := 15) rfl))))), (fun _ h => absurd h List.not_mem_nil)⟩⟩, (fun _ h => List.mem_cons_of_mem _ (List.mem_append_right _ h))⟩⟩⟩) (by decide +kernel)
set_option maxRecDepth 20000 in
theorem gm_X11_make_e_X10_addObject_e_105 : GoodIn wm_X11_make_e (wsV RX11 105 RX10 yX10_addObject wm_X10_addObject_e) := goodIn_w (List.forall_mem_append.mpr ⟨List.forall_mem_cons.mpr ⟨List.mem_cons_of_mem _ (List.mem_append_left _ (List.mem_append_left _ (List.mem_append_left _ (List.mem_append_right _ (List.mem_of_getElem? (i := 0) rfl))))), List.forall_mem_cons.mpr ⟨List.mem_cons_of_mem _ (List.mem_append_left _ (List.mem_append_left _ (List.mem_append_left _ (List.mem_append_right _ (List.mem_of_getElem? (i := 1) rfl))))), List.forall_mem_cons.mpr ⟨List.mem_cons_of_mem _ (List.mem_append_left _ (List.mem_append_left _ (List.mem_append_left _ (List.mem_append_right _ (List.mem_of_getElem? (i := 2) rfl))))), List.forall_mem_cons.mpr ⟨List.mem_cons_of_mem _ (List.mem_append_left _ (List.mem_append_left _ (List.mem_append_left _ (List.mem_append_left _ (List.mem_of_getElem? (i := 4) rfl))))), (fun _ h => absurd h List.not_mem_nil)⟩⟩⟩⟩, List.forall_mem_cons.mpr ⟨List.mem_cons_of_mem _ (List.mem_append_left _ (List.mem_append_left _ (List.mem_append_left _ (List.mem_append_right _ (List.mem_of_getElem? (i := 3) rfl))))), List.forall_mem_append.mpr ⟨List.forall_mem_cons.mpr ⟨List.mem_cons_of_mem _ (List.mem_append_left _ (List.mem_append_left _ (List.mem_append_left _ (List.mem_append_right _ (List.mem_of_getElem? (i := 4) rfl))))), List.forall_mem_cons.mpr ⟨List.mem_cons_of_mem _ (List.mem_append_left _ (List.mem_append_left _ (List.mem_append_left _ (List.mem_append_right _ (List.mem_of_getElem? (i := 5) rfl))))), List.forall_mem_cons.mpr ⟨List.mem_cons_of_mem _ (List.mem_append_left _ (List.mem_append_left _ (List.mem_append_left _ (List.mem_append_right _ (List.mem_of_getElem? (i := 6) rfl))))), (fun _ h => absurd h List.not_mem_nil)⟩⟩⟩, (fun _ h => List.mem_cons_of_mem _ (List.mem_append_left _ (List.mem_append_right _ h)))⟩⟩⟩) (by decide +kernel)
set_option maxHeartbeats 4000000 in
set_option maxRecDepth 100000 in
theorem x_X11_make_e (l : Launch) (D : va_G) (sz : Nat) (sk : Value) (a : Nat → Nat) (t : Nat → ClassId) (i : Nat → Int32) (q : Int64) (c : Nat → Nat → Int32) (d : Nat → Nat → Int64) (k1 : Int32) (s1 : Int32) (hI : xInv i c) : Met l yX11_make wm_X11_make_e ({ frames := 1, cells := 0, slots := 0, locals := 22 }) (va_Pc [.ref (a 100), .int k1, .int s1] (yB (a 186) D sz (xwT sk a t i q c d) (xtT t))) (va_Qi (fun (r : Int32) (u : MS) => True ∧ xInv u.1 u.2.2.1 ∧ (∀ k, k ∉ ([111, 146, 148] : List Nat) → u.1 k = i k) ∧ (∀ k, k ∉ ([108, 109] : List Nat) → u.2.2.1 k = c k) ∧ (xEn (i 146) (i 148) (u.1 146) (u.1 148)) ∧ ((¬ (0 ≤ k1.toInt ∧ k1.toInt < (i 110).toInt ∧ 0 ≤ s1.toInt ∧ s1.toInt ≤ 99) ∧ r.toInt = -1 ∧ (u.1 111).toInt = (i 111).toInt) ∨ (0 ≤ k1.toInt ∧ k1.toInt < (i 110).toInt ∧ 0 ≤ s1.toInt ∧ s1.toInt ≤ 99 ∧ 30 ≤ (i 111).toInt ∧ r.toInt = -2 ∧ (u.1 111).toInt = (i 111).toInt) ∨ (0 ≤ k1.toInt ∧ k1.toInt < (i 110).toInt ∧ 0 ≤ s1.toInt ∧ s1.toInt ≤ 99 ∧ (i 111).toInt ≤ 29 ∧ r.toInt = (i 111).toInt ∧ (u.1 111).toInt = (i 111).toInt + 1)) ∧ (OU (c 108) (u.2.2.1 108) k1 s1 (i 110) (i 111))) (oC D (va_A (xwT sk a t i q c d) sz) (fun u : MS => xwT sk a t u.1 u.2.1 u.2.2.1 u.2.2.2) (fun _ => [])) (va_A (xwT sk a t i q c d) sz)) 0 0 (va_A (xwT sk a t i q c d) sz) := by
  refine Met.ofW (cc := cX11_make) (maxL := 3) (ret := (some .int)) (by decide +kernel) rfl ?_
  intro p e s m args below meth cd s₁ B hml hv
  obtain ⟨rfl, ⟨hsz, hP, hK, hD0⟩, hN, hZ, hBW⟩ := hv
  have hx := B.exec
  have hb := B.bytes
  have hr := B.returns
  have hts := atoms_spec (ws := wm_X11_make_e) B.pre
  have hown : s.vm.findClass RX11 = some m.cls := findClass_of_methodNamed B.named
  have hlocks := B.notSynchronized
  subst hsz
  have hD := hD0.self (sz := s.heap.size)
  have hZ := xZ_A hZ hP hBW
  generalize hAe : va_A (xwT sk a t i q c d) s.heap.size = A at hD hZ ⊢
  have hA : ∀ q : Nat, s.heap.size ≤ q → A q := fun q h => by rw [← hAe]; exact Or.inr h
  have hS : va_S A s.heap s.heap [] := va_S.rf
  have hfi : ∀ k, k ∉ ([] : List Nat) → i k = i k := fun _ _ => rfl
  have hfc : ∀ k, k ∉ ([] : List Nat) → c k = c k := fun _ _ => rfl
  have hl := lv_entry ([.ref (a 100), .int k1, .int s1]) (n := 3) (Nat.le_of_ble_eq_true rfl)
  rw [lg_entry_eq]
  generalize (lg_sl ([.ref (a 100), .int k1, .int s1]) ++ List.replicate (3 - (lg_sl ([.ref (a 100), .int k1, .int s1])).length) Slot.unset).toArray = ls at hl ⊢
  have hl : lv_has ls 3 [(0, .ref (a 100)), (1, .int k1), (2, .int s1)] := hl
  have rb110_i : 6 ≤ (i 110).toInt ∧ (i 110).toInt ≤ 24 := hI.1 110
  have rb111_i : 0 ≤ (i 111).toInt ∧ (i 111).toInt ≤ 30 := hI.1 111
  refine lv_aload_n hx hb dX11_make_0 rfl (lv_at hl 0 rfl) ?_
  refine xgT_X_world hx hb hts (fun _ h => List.mem_cons_of_mem _ (List.mem_append_left _ (List.mem_append_left _ (List.mem_append_right _ h)))) hown hK hP (hts (.fieldLink RX11 10 "TalePlay" "world" "LTalePlay$World;") (List.mem_cons_of_mem _ (List.mem_append_left _ (List.mem_append_left _ (List.mem_append_left _ (List.mem_append_left _ (List.mem_of_getElem? (i := 0) rfl))))))) dX11_make_1 ?_
  refine lv_iload_n hx hb dX11_make_4 rfl (lv_at hl 1 rfl) ?_
  refine ro_calli (va_runV (As := [.int k1]) (rest := []) ⟨hx, hb, hml, hown, hts⟩ (x_X10_hasKind l D s.heap.size .null a t i q c d k1 hI ) (cwV 1 hts gm_X11_make_e_X10_hasKind_80 rfl rfl rfl (by decide +kernel) ⟨Nat.le_of_ble_eq_true rfl, Nat.le_of_ble_eq_true rfl⟩) (yA_V hN (xZ_k hZ hS hA) (xkT_W hK) (xuT_W (sk := sk) hP) (ci := 10) (q0 := 0) rfl rfl) rfl rfl hl.1 rfl (lv_room (Nat.le_of_ble_eq_true rfl)) dX11_make_5 ⟨Nat.le_of_ble_eq_true rfl, Nat.le_of_ble_eq_true rfl⟩) hS hA hP (fun r1 u1 H locs hw1 hP hS => ?_)
  have hw1 : r1 = if (0 ≤ k1.toInt ∧ k1.toInt < (i 110).toInt) then 1 else 0 := hw1
  refine lv_if_eq (tgt := 21) hx hb dX11_make_8 (by decide +kernel) (fun c2 => ?_) (fun c2 => ?_)
  · have f2 := fl_f hw1 c2
    refine lv_iconst (v := (-1)) hx hb dX11_make_21 (by decide +kernel) ?_
    exact rw_iret (i, q, c, d) hx hb hr hlocks hS (hK.sub (tys' := []) [] rfl) hP hD dX11_make_22 ⟨trivial, hI, fr_w hfi (by decide +kernel), fr_w hfc (by decide +kernel), (show xEn (i 146) (i 148) ((i 146) : Int32) ((i 148) : Int32) from Or.inr ⟨rfl, rfl⟩), (show (¬ (0 ≤ k1.toInt ∧ k1.toInt < (i 110).toInt ∧ 0 ≤ s1.toInt ∧ s1.toInt ≤ 99) ∧ ((-1) : Int32).toInt = -1 ∧ ((i 111) : Int32).toInt = (i 111).toInt) ∨ (0 ≤ k1.toInt ∧ k1.toInt < (i 110).toInt ∧ 0 ≤ s1.toInt ∧ s1.toInt ≤ 99 ∧ 30 ≤ (i 111).toInt ∧ ((-1) : Int32).toInt = -2 ∧ ((i 111) : Int32).toInt = (i 111).toInt) ∨ (0 ≤ k1.toInt ∧ k1.toInt < (i 110).toInt ∧ 0 ≤ s1.toInt ∧ s1.toInt ≤ 99 ∧ (i 111).toInt ≤ 29 ∧ ((-1) : Int32).toInt = (i 111).toInt ∧ ((i 111) : Int32).toInt = (i 111).toInt + 1) from by have h53 : ((-1) : Int32).toInt = -1 := (by decide +kernel); omega), (show OU (c 108) (c 108) k1 s1 (i 110) (i 111) from Or.inl ⟨by omega, rfl⟩)⟩
  · have f2 := fl_t hw1 c2
    refine lv_iload_n hx hb dX11_make_11 rfl (lv_at hl 2 rfl) ?_
    refine lv_if_lt (tgt := 21) hx hb dX11_make_12 (by decide +kernel) (fun c3 => ?_) (fun c3 => ?_)
    · have f3 := (ti_lt (a := s1.toInt) (b := 0) rfl (by decide +kernel)).mp c3
      refine lv_iconst (v := (-1)) hx hb dX11_make_21 (by decide +kernel) ?_
      exact rw_iret (i, q, c, d) hx hb hr hlocks hS (hK.sub (tys' := []) [] rfl) hP hD dX11_make_22 ⟨trivial, hI, fr_w hfi (by decide +kernel), fr_w hfc (by decide +kernel), (show xEn (i 146) (i 148) ((i 146) : Int32) ((i 148) : Int32) from Or.inr ⟨rfl, rfl⟩), (show (¬ (0 ≤ k1.toInt ∧ k1.toInt < (i 110).toInt ∧ 0 ≤ s1.toInt ∧ s1.toInt ≤ 99) ∧ ((-1) : Int32).toInt = -1 ∧ ((i 111) : Int32).toInt = (i 111).toInt) ∨ (0 ≤ k1.toInt ∧ k1.toInt < (i 110).toInt ∧ 0 ≤ s1.toInt ∧ s1.toInt ≤ 99 ∧ 30 ≤ (i 111).toInt ∧ ((-1) : Int32).toInt = -2 ∧ ((i 111) : Int32).toInt = (i 111).toInt) ∨ (0 ≤ k1.toInt ∧ k1.toInt < (i 110).toInt ∧ 0 ≤ s1.toInt ∧ s1.toInt ≤ 99 ∧ (i 111).toInt ≤ 29 ∧ ((-1) : Int32).toInt = (i 111).toInt ∧ ((i 111) : Int32).toInt = (i 111).toInt + 1) from by have h53 : ((-1) : Int32).toInt = -1 := (by decide +kernel); omega), (show OU (c 108) (c 108) k1 s1 (i 110) (i 111) from Or.inl ⟨by omega, rfl⟩)⟩
    · have f3 := mt (ti_lt (a := s1.toInt) (b := 0) rfl (by decide +kernel)).mpr c3
      refine lv_iload_n hx hb dX11_make_15 rfl (lv_at hl 2 rfl) ?_
      refine lv_bipush (v := 99) hx hb dX11_make_16 (by decide +kernel) ?_
      refine lv_icmp_le (tgt := 23) hx hb dX11_make_18 (by decide +kernel) (fun c4 => ?_) (fun c4 => ?_)
      · have f4 := (ti_le (a := s1.toInt) (b := 99) rfl (by decide +kernel)).mp c4
        refine lv_aload_n hx hb dX11_make_23 rfl (lv_at hl 0 rfl) ?_
        refine xgT_X_world hx hb hts (fun _ h => List.mem_cons_of_mem _ (List.mem_append_left _ (List.mem_append_left _ (List.mem_append_right _ h)))) hown hK hP (hts (.fieldLink RX11 10 "TalePlay" "world" "LTalePlay$World;") (List.mem_cons_of_mem _ (List.mem_append_left _ (List.mem_append_left _ (List.mem_append_left _ (List.mem_append_left _ (List.mem_of_getElem? (i := 0) rfl))))))) dX11_make_24 ?_
        refine xgT_W_objects (v := (i 111)) rfl hx hb hts (fun _ h => List.mem_cons_of_mem _ (List.mem_append_left _ (List.mem_append_right _ h))) hown hK hP (hts (.fieldLink RX11 102 "TalePlay$World" "objects" "I") (List.mem_cons_of_mem _ (List.mem_append_left _ (List.mem_append_left _ (List.mem_append_left _ (List.mem_append_left _ (List.mem_of_getElem? (i := 7) rfl))))))) dX11_make_27 ?_
        refine lv_bipush (v := 30) hx hb dX11_make_30 (by decide +kernel) ?_
        refine lv_icmp_lt (tgt := 38) hx hb dX11_make_32 (by decide +kernel) (fun c5 => ?_) (fun c5 => ?_)
        · have f5 := (ti_lt (a := (i 111).toInt) (b := 30) rfl (by decide +kernel)).mp c5
          refine lv_aload_n hx hb dX11_make_38 rfl (lv_at hl 0 rfl) ?_
          refine xgT_X_tale hx hb hts (fun _ h => List.mem_cons_of_mem _ (List.mem_append_left _ (List.mem_append_left _ (List.mem_append_right _ h)))) hown hK hP (hts (.fieldLink RX11 46 "TalePlay" "tale" "LTalePlay$Tale;") (List.mem_cons_of_mem _ (List.mem_append_left _ (List.mem_append_left _ (List.mem_append_left _ (List.mem_append_left _ (List.mem_of_getElem? (i := 8) rfl))))))) dX11_make_39 ?_
          refine al_callv (va_runV (As := []) (rest := []) ⟨hx, hb, hml, hown, hts⟩ (x_X9_end l D H.size sk a t i q c d  hI ) (cwV 0 hts gm_X11_make_e_X9_end_95 rfl rfl rfl (by decide +kernel) ⟨Nat.le_of_ble_eq_true rfl, Nat.le_of_ble_eq_true rfl⟩) (yB_V hN (xZ_k hZ hS hA) (xZ_n hZ hD) hK hP hD (ci := 9) (q0 := 33) rfl rfl) rfl rfl hl.1 rfl (lv_room (Nat.le_of_ble_eq_true rfl)) dX11_make_42 ⟨Nat.le_of_ble_eq_true rfl, Nat.le_of_ble_eq_true rfl⟩) hS hA hP hD (fun u6 H locs hw6 hP hD hS => ?_)
          obtain ⟨i6, q6, c6, d6⟩ := u6
          have hw6 : True ∧ xInv i6 c6 ∧ (∀ k, k ∉ ([146, 148] : List Nat) → i6 k = i k) ∧ (∀ k, k ∉ ([] : List Nat) → c6 k = c k) ∧ ((i6 146).toInt = 0) ∧ ((i6 148).toInt = 0) := hw6
          obtain ⟨hw6, hI, hei6, hec6, hxp6_0, hxp6_1⟩ := hw6
          have hxp6_0 : (i6 146).toInt = 0 := hxp6_0
          have hxp6_1 : (i6 148).toInt = 0 := hxp6_1
          have hfi : ∀ k, k ∉ ([146, 148] : List Nat) → i6 k = i k := fr_z hfi hei6 (by decide +kernel) (by decide +kernel)
          have hfc : ∀ k, k ∉ ([] : List Nat) → c6 k = c k := fr_z hfc hec6 (by decide +kernel) (by decide +kernel)
          have hen : (i6 146).toInt = 0 := hxp6_0
          refine lv_aload_n hx hb dX11_make_45 rfl (lv_at hl 0 rfl) ?_
          refine xgT_X_world hx hb hts (fun _ h => List.mem_cons_of_mem _ (List.mem_append_left _ (List.mem_append_left _ (List.mem_append_right _ h)))) hown hK hP (hts (.fieldLink RX11 10 "TalePlay" "world" "LTalePlay$World;") (List.mem_cons_of_mem _ (List.mem_append_left _ (List.mem_append_left _ (List.mem_append_left _ (List.mem_append_left _ (List.mem_of_getElem? (i := 0) rfl))))))) dX11_make_46 ?_
          refine lv_iload_n hx hb dX11_make_49 rfl (lv_at hl 1 rfl) ?_
          refine lv_iload_n hx hb dX11_make_50 rfl (lv_at hl 2 rfl) ?_
          have rb111_i6 : 0 ≤ (i6 111).toInt ∧ (i6 111).toInt ≤ 30 := hI.1 111
          have re111_i6 : (i6 111).toInt = (i 111).toInt := congrArg Int32.toInt (hfi 111 (by decide +kernel))
          refine al_calli (va_runV (As := [.int k1, .int s1]) (rest := []) ⟨hx, hb, hml, hown, hts⟩ (x_X10_addObject_e l D H.size sk a t i6 q6 c6 d6 k1 s1 hI (show 0 ≤ k1.toInt ∧ k1.toInt ≤ 23 from by omega) (show 0 ≤ s1.toInt ∧ s1.toInt ≤ 99 from by omega) (show ((i6 111) : Int32).toInt ≤ 29 from by omega)) (cwV 2 hts gm_X11_make_e_X10_addObject_e_105 rfl rfl rfl (by decide +kernel) ⟨Nat.le_of_ble_eq_true rfl, Nat.le_of_ble_eq_true rfl⟩) (yB_V hN (xZ_k hZ hS hA) (xZ_n hZ hD) hK hP hD (ci := 10) (q0 := 2) rfl rfl) rfl rfl hl.1 rfl (lv_room (Nat.le_of_ble_eq_true rfl)) dX11_make_51 ⟨Nat.le_of_ble_eq_true rfl, Nat.le_of_ble_eq_true rfl⟩) hS hA hP hD (fun r7 u7 H locs hw7 hP hD hS => ?_)
          obtain ⟨i7, q7, c7, d7⟩ := u7
          have hw7 : (r7.toInt = (i6 111).toInt) ∧ xInv i7 c7 ∧ (∀ k, k ∉ ([111] : List Nat) → i7 k = i6 k) ∧ (∀ k, k ∉ ([108, 109] : List Nat) → c7 k = c6 k) ∧ ((i7 111).toInt = (i6 111).toInt + 1) ∧ ((c7 108) = upd (c6 108) (i6 111).toNatClampNeg k1) := hw7
          obtain ⟨hw7, hI, hei7, hec7, hxp7_0, hxp7_1⟩ := hw7
          have hxp7_0 : (i7 111).toInt = (i 111).toInt + 1 := by have h9 := hxp7_0; rw [show i6 111 = i 111 from hfi 111 (by decide +kernel)] at h9; exact h9
          have hxp7_1 : (c7 108) = upd (c 108) (i 111).toNatClampNeg k1 := by have h9 := hxp7_1; rw [show c6 108 = c 108 from hfc 108 (by decide +kernel), show i6 111 = i 111 from hfi 111 (by decide +kernel)] at h9; exact h9
          have hfi : ∀ k, k ∉ ([111, 146, 148] : List Nat) → i7 k = i k := fr_z hfi hei7 (by decide +kernel) (by decide +kernel)
          have hfc : ∀ k, k ∉ ([108, 109] : List Nat) → c7 k = c k := fr_z hfc hec7 (by decide +kernel) (by decide +kernel)
          have hen : ((i7 146) : Int32).toInt = 0 := by rw [show i7 146 = i6 146 from hei7 146 (by decide +kernel)]; exact hen
          exact rw_iret (i7, q7, c7, d7) hx hb hr hlocks hS (hK.sub (tys' := []) [] rfl) hP hD dX11_make_54 ⟨trivial, hI, fr_w hfi (by decide +kernel), fr_w hfc (by decide +kernel), (show xEn (i 146) (i 148) ((i7 146) : Int32) ((i7 148) : Int32) from Or.inl hen), (show (¬ (0 ≤ k1.toInt ∧ k1.toInt < (i 110).toInt ∧ 0 ≤ s1.toInt ∧ s1.toInt ≤ 99) ∧ (r7 : Int32).toInt = -1 ∧ ((i7 111) : Int32).toInt = (i 111).toInt) ∨ (0 ≤ k1.toInt ∧ k1.toInt < (i 110).toInt ∧ 0 ≤ s1.toInt ∧ s1.toInt ≤ 99 ∧ 30 ≤ (i 111).toInt ∧ (r7 : Int32).toInt = -2 ∧ ((i7 111) : Int32).toInt = (i 111).toInt) ∨ (0 ≤ k1.toInt ∧ k1.toInt < (i 110).toInt ∧ 0 ≤ s1.toInt ∧ s1.toInt ≤ 99 ∧ (i 111).toInt ≤ 29 ∧ (r7 : Int32).toInt = (i 111).toInt ∧ ((i7 111) : Int32).toInt = (i 111).toInt + 1) from by omega), (show OU (c 108) (c7 108) k1 s1 (i 110) (i 111) from Or.inr ⟨by omega, by omega, by omega, by omega, by omega, hxp7_1⟩)⟩
        · have f5 := mt (ti_lt (a := (i 111).toInt) (b := 30) rfl (by decide +kernel)).mpr c5
          refine lv_bipush (v := (-2)) hx hb dX11_make_35 (by decide +kernel) ?_
          exact rw_iret (i, q, c, d) hx hb hr hlocks hS (hK.sub (tys' := []) [] rfl) hP hD dX11_make_37 ⟨trivial, hI, fr_w hfi (by decide +kernel), fr_w hfc (by decide +kernel), (show xEn (i 146) (i 148) ((i 146) : Int32) ((i 148) : Int32) from Or.inr ⟨rfl, rfl⟩), (show (¬ (0 ≤ k1.toInt ∧ k1.toInt < (i 110).toInt ∧ 0 ≤ s1.toInt ∧ s1.toInt ≤ 99) ∧ ((-2) : Int32).toInt = -1 ∧ ((i 111) : Int32).toInt = (i 111).toInt) ∨ (0 ≤ k1.toInt ∧ k1.toInt < (i 110).toInt ∧ 0 ≤ s1.toInt ∧ s1.toInt ≤ 99 ∧ 30 ≤ (i 111).toInt ∧ ((-2) : Int32).toInt = -2 ∧ ((i 111) : Int32).toInt = (i 111).toInt) ∨ (0 ≤ k1.toInt ∧ k1.toInt < (i 110).toInt ∧ 0 ≤ s1.toInt ∧ s1.toInt ≤ 99 ∧ (i 111).toInt ≤ 29 ∧ ((-2) : Int32).toInt = (i 111).toInt ∧ ((i 111) : Int32).toInt = (i 111).toInt + 1) from by have h53 : ((-2) : Int32).toInt = -2 := (by decide +kernel); omega), (show OU (c 108) (c 108) k1 s1 (i 110) (i 111) from Or.inl ⟨by omega, rfl⟩)⟩
      · have f4 := mt (ti_le (a := s1.toInt) (b := 99) rfl (by decide +kernel)).mpr c4
        refine lv_iconst (v := (-1)) hx hb dX11_make_21 (by decide +kernel) ?_
        exact rw_iret (i, q, c, d) hx hb hr hlocks hS (hK.sub (tys' := []) [] rfl) hP hD dX11_make_22 ⟨trivial, hI, fr_w hfi (by decide +kernel), fr_w hfc (by decide +kernel), (show xEn (i 146) (i 148) ((i 146) : Int32) ((i 148) : Int32) from Or.inr ⟨rfl, rfl⟩), (show (¬ (0 ≤ k1.toInt ∧ k1.toInt < (i 110).toInt ∧ 0 ≤ s1.toInt ∧ s1.toInt ≤ 99) ∧ ((-1) : Int32).toInt = -1 ∧ ((i 111) : Int32).toInt = (i 111).toInt) ∨ (0 ≤ k1.toInt ∧ k1.toInt < (i 110).toInt ∧ 0 ≤ s1.toInt ∧ s1.toInt ≤ 99 ∧ 30 ≤ (i 111).toInt ∧ ((-1) : Int32).toInt = -2 ∧ ((i 111) : Int32).toInt = (i 111).toInt) ∨ (0 ≤ k1.toInt ∧ k1.toInt < (i 110).toInt ∧ 0 ≤ s1.toInt ∧ s1.toInt ≤ 99 ∧ (i 111).toInt ≤ 29 ∧ ((-1) : Int32).toInt = (i 111).toInt ∧ ((i 111) : Int32).toInt = (i 111).toInt + 1) from by have h53 : ((-1) : Int32).toInt = -1 := (by decide +kernel); omega), (show OU (c 108) (c 108) k1 s1 (i 110) (i 111) from Or.inl ⟨by omega, rfl⟩)⟩

set_option maxHeartbeats 4000000 in
set_option maxRecDepth 100000 in
theorem s_X12_make_e (l : Launch) (D : va_G) (sz : Nat) (o : Nat) (a : Nat → Nat) (t : Nat → ClassId) (i : Nat → Int32) (q : Int64) (c : Nat → Nat → Int32) (d : Nat → Nat → Int64) (k1 : Int32) (s1 : Int32) (hI : mInv i c) (hs_S : SJ (c 3) (c 6) (c 9) (c 10) (c 11) (c 13) (i 2).toInt (i 5).toInt (i 8).toInt) (hs_J : TJ (c 3) (c 6) (c 23) (c 24) (c 29) (c 30) (i 5).toInt (i 22).toInt (i 27).toInt) : Met l yX12_make wm_X12_make ({ frames := 1, cells := 0, slots := 0, locals := 25 }) (va_Pc [.ref o, .int k1, .int s1] (pB D sz (mW o a t i q c d) (mT t))) (va_Qi (fun (r : Int32) (u : MS) => True ∧ mInv u.1 u.2.2.1 ∧ (∀ k, k ∉ ([5, 22, 27] : List Nat) → u.1 k = i k) ∧ (∀ k, k ∉ ([6, 7] : List Nat) → u.2.2.1 k = c k) ∧ (SJ (u.2.2.1 3) (u.2.2.1 6) (u.2.2.1 9) (u.2.2.1 10) (u.2.2.1 11) (u.2.2.1 13) (u.1 2).toInt (u.1 5).toInt (u.1 8).toInt) ∧ (TJ (u.2.2.1 3) (u.2.2.1 6) (u.2.2.1 23) (u.2.2.1 24) (u.2.2.1 29) (u.2.2.1 30) (u.1 5).toInt (u.1 22).toInt (u.1 27).toInt) ∧ ((¬ (0 ≤ k1.toInt ∧ k1.toInt < (i 2).toInt ∧ 0 ≤ s1.toInt ∧ s1.toInt ≤ 99) ∧ r.toInt = -1 ∧ (u.1 5).toInt = (i 5).toInt) ∨ (0 ≤ k1.toInt ∧ k1.toInt < (i 2).toInt ∧ 0 ≤ s1.toInt ∧ s1.toInt ≤ 99 ∧ 30 ≤ (i 5).toInt ∧ r.toInt = -2 ∧ (u.1 5).toInt = (i 5).toInt) ∨ (0 ≤ k1.toInt ∧ k1.toInt < (i 2).toInt ∧ 0 ≤ s1.toInt ∧ s1.toInt ≤ 99 ∧ (i 5).toInt ≤ 29 ∧ r.toInt = (i 5).toInt ∧ (u.1 5).toInt = (i 5).toInt + 1)) ∧ (OU (c 6) (u.2.2.1 6) k1 s1 (i 2) (i 5))) (oC D (va_A (mW o a t i q c d) sz) (fun u : MS => mW o a t u.1 u.2.1 u.2.2.1 u.2.2.2) (fun _ => [])) (va_A (mW o a t i q c d) sz)) 0 0 (va_A (mW o a t i q c d) sz) := by
  refine Met.ofW (cc := cX12_make) (maxL := 3) (ret := (some .int)) (by decide +kernel) rfl ?_
  intro p e s m args below meth cd s₁ B hml hv
  obtain ⟨rfl, hsz, hP, hK, hD0⟩ := hv
  have hx := B.exec
  have hb := B.bytes
  have hr := B.returns
  have hts := atoms_spec (ws := wm_X12_make) B.pre
  have hown : s.vm.findClass RX12 = some m.cls := findClass_of_methodNamed B.named
  have hlocks := B.notSynchronized
  subst hsz
  have hD := hD0.self (sz := s.heap.size)
  generalize hAe : va_A (mW o a t i q c d) s.heap.size = A at hD ⊢
  have hA : ∀ q : Nat, s.heap.size ≤ q → A q := fun q h => by rw [← hAe]; exact Or.inr h
  have hS : va_S A s.heap s.heap [] := va_S.rf
  have hfi : ∀ k, k ∉ ([] : List Nat) → i k = i k := fun _ _ => rfl
  have hfc : ∀ k, k ∉ ([] : List Nat) → c k = c k := fun _ _ => rfl
  have hl := lv_entry ([.ref o, .int k1, .int s1]) (n := 3) (Nat.le_of_ble_eq_true rfl)
  rw [lg_entry_eq]
  generalize (lg_sl ([.ref o, .int k1, .int s1]) ++ List.replicate (3 - (lg_sl ([.ref o, .int k1, .int s1])).length) Slot.unset).toArray = ls at hl ⊢
  have hl : lv_has ls 3 [(0, .ref o), (1, .int k1), (2, .int s1)] := hl
  have hI0 := hI
  have rb2_i : 6 ≤ (i 2).toInt ∧ (i 2).toInt ≤ 24 := hI.1 2
  have rb5_i : 0 ≤ (i 5).toInt ∧ (i 5).toInt ≤ 30 := hI.1 5
  refine lv_iload_n hx hb dX12_make_0 rfl (lv_at hl 1 rfl) ?_
  refine lv_i2l (v := k1.toInt64) hx hb dX12_make_1 rfl ?_
  refine lv_lconst (v := 0) hx hb dX12_make_2 (by decide +kernel) ?_
  refine lv_aload_n hx hb dX12_make_3 rfl (lv_at hl 0 rfl) ?_
  refine mget_2 (v := (i 2)) rfl hx hb hts (fun _ h => List.mem_cons_of_mem _ (List.mem_append_right _ h)) hown hK hP (hts (.fieldLink RX12 151 "TalePlayModel" "kinds" "I") (List.mem_cons_of_mem _ (List.mem_append_left _ (List.mem_of_getElem? (i := 0) rfl)))) dX12_make_4 ?_
  refine lv_iconst (v := 1) hx hb dX12_make_7 (by decide +kernel) ?_
  refine lv_isub hx hb dX12_make_8 ?_
  refine lv_topi (fun x1 ex1 => ?_)
  have tx1 := ti_sub (a := (i 2).toInt) (b := 1) ex1 rfl (by decide +kernel) (by omega) (by omega)
  refine lv_i2l (v := x1.toInt64) hx hb dX12_make_9 rfl ?_
  have hPc := hP.sub (ws' := []) [] rfl
  have hKc := hK.sub (tys' := []) [] rfl
  refine ro_calli (va_runS (As := [.long k1.toInt64, .long 0, .long x1.toInt64]) (rest := []) ⟨hx, hb, hml, hown, hts⟩ (c_X12_in l D s.heap.size k1.toInt64 0 x1.toInt64 k1.toInt 0 ((i 2).toInt - 1) ((Int32.toInt_toInt64 k1).trans rfl) (by decide +kernel) ((Int32.toInt_toInt64 x1).trans tx1)) (va_cwS 3 hts gm_X12_make_X12_in rfl rfl rfl (by decide +kernel) ⟨Nat.le_of_ble_eq_true rfl, Nat.le_of_ble_eq_true rfl⟩) (pA_S hKc hPc) rfl rfl hl.1 rfl (lv_room (Nat.le_of_ble_eq_true rfl)) dX12_make_10 ⟨Nat.le_of_ble_eq_true rfl, Nat.le_of_ble_eq_true rfl⟩) hS hA hP (fun r2 u2 H locs hw2 hP hS => ?_)
  have hw2 : r2 = if (0 ≤ k1.toInt ∧ k1.toInt ≤ ((i 2).toInt - 1)) then 1 else 0 := hw2
  refine lv_if_eq (tgt := 28) hx hb dX12_make_13 (by decide +kernel) (fun c3 => ?_) (fun c3 => ?_)
  · have f3 := fl_f hw2 c3
    refine lv_iconst (v := (-1)) hx hb dX12_make_28 (by decide +kernel) ?_
    exact rw_iret (i, q, c, d) hx hb hr hlocks hS (hK.sub (tys' := []) [] rfl) hP hD dX12_make_29 ⟨trivial, hI, fr_w hfi (by decide +kernel), fr_w hfc (by decide +kernel), (show SJ (c 3) (c 6) (c 9) (c 10) (c 11) (c 13) ((i 2) : Int32).toInt ((i 5) : Int32).toInt ((i 8) : Int32).toInt from hs_S), (show TJ (c 3) (c 6) (c 23) (c 24) (c 29) (c 30) ((i 5) : Int32).toInt ((i 22) : Int32).toInt ((i 27) : Int32).toInt from hs_J), (show (¬ (0 ≤ k1.toInt ∧ k1.toInt < (i 2).toInt ∧ 0 ≤ s1.toInt ∧ s1.toInt ≤ 99) ∧ ((-1) : Int32).toInt = -1 ∧ ((i 5) : Int32).toInt = (i 5).toInt) ∨ (0 ≤ k1.toInt ∧ k1.toInt < (i 2).toInt ∧ 0 ≤ s1.toInt ∧ s1.toInt ≤ 99 ∧ 30 ≤ (i 5).toInt ∧ ((-1) : Int32).toInt = -2 ∧ ((i 5) : Int32).toInt = (i 5).toInt) ∨ (0 ≤ k1.toInt ∧ k1.toInt < (i 2).toInt ∧ 0 ≤ s1.toInt ∧ s1.toInt ≤ 99 ∧ (i 5).toInt ≤ 29 ∧ ((-1) : Int32).toInt = (i 5).toInt ∧ ((i 5) : Int32).toInt = (i 5).toInt + 1) from by have h53 : ((-1) : Int32).toInt = -1 := (by decide +kernel); omega), (show OU (c 6) (c 6) k1 s1 (i 2) (i 5) from Or.inl ⟨by omega, rfl⟩)⟩
  · have f3 := fl_t hw2 c3
    refine lv_iload_n hx hb dX12_make_16 rfl (lv_at hl 2 rfl) ?_
    refine lv_i2l (v := s1.toInt64) hx hb dX12_make_17 rfl ?_
    refine lv_lconst (v := 0) hx hb dX12_make_18 (by decide +kernel) ?_
    refine lv_ldc2 (v := 99) hx hb hown (hts (.constantLong RX12 175 (99)) (List.mem_cons_of_mem _ (List.mem_append_left _ (List.mem_of_getElem? (i := 5) rfl)))) dX12_make_19 ?_
    have hPc := hP.sub (ws' := []) [] rfl
    have hKc := hK.sub (tys' := []) [] rfl
    refine ro_calli (va_runS (As := [.long s1.toInt64, .long 0, .long 99]) (rest := []) ⟨hx, hb, hml, hown, hts⟩ (c_X12_in l D H.size s1.toInt64 0 99 s1.toInt 0 99 ((Int32.toInt_toInt64 s1).trans rfl) (by decide +kernel) (by decide +kernel)) (va_cwS 3 hts gm_X12_make_X12_in rfl rfl rfl (by decide +kernel) ⟨Nat.le_of_ble_eq_true rfl, Nat.le_of_ble_eq_true rfl⟩) (pA_S hKc hPc) rfl rfl hl.1 rfl (lv_room (Nat.le_of_ble_eq_true rfl)) dX12_make_22 ⟨Nat.le_of_ble_eq_true rfl, Nat.le_of_ble_eq_true rfl⟩) hS hA hP (fun r4 u4 H locs hw4 hP hS => ?_)
    have hw4 : r4 = if (0 ≤ s1.toInt ∧ s1.toInt ≤ 99) then 1 else 0 := hw4
    refine lv_if_ne (tgt := 30) hx hb dX12_make_25 (by decide +kernel) (fun c5 => ?_) (fun c5 => ?_)
    · have f5 := fl_t hw4 c5
      refine lv_aload_n hx hb dX12_make_30 rfl (lv_at hl 0 rfl) ?_
      refine mget_5 (v := (i 5)) rfl hx hb hts (fun _ h => List.mem_cons_of_mem _ (List.mem_append_right _ h)) hown hK hP (hts (.fieldLink RX12 177 "TalePlayModel" "objects" "I") (List.mem_cons_of_mem _ (List.mem_append_left _ (List.mem_of_getElem? (i := 6) rfl)))) dX12_make_31 ?_
      refine lv_bipush (v := 30) hx hb dX12_make_34 (by decide +kernel) ?_
      refine lv_icmp_ne (tgt := 42) hx hb dX12_make_36 (by decide +kernel) (fun c6 => ?_) (fun c6 => ?_)
      · have f6 := mt (ti_eq (a := (i 5).toInt) (b := 30) rfl (by decide +kernel)).mpr c6
        refine lv_aload_n hx hb dX12_make_42 rfl (lv_at hl 0 rfl) ?_
        refine mget_6 hx hb hts (fun _ h => List.mem_cons_of_mem _ (List.mem_append_right _ h)) hown hK hP (hts (.fieldLink RX12 19 "TalePlayModel" "kindOf" "[I") (List.mem_cons_of_mem _ (List.mem_append_left _ (List.mem_of_getElem? (i := 7) rfl)))) dX12_make_43 ?_
        refine lv_aload_n hx hb dX12_make_46 rfl (lv_at hl 0 rfl) ?_
        refine mget_5 (v := (i 5)) rfl hx hb hts (fun _ h => List.mem_cons_of_mem _ (List.mem_append_right _ h)) hown hK hP (hts (.fieldLink RX12 177 "TalePlayModel" "objects" "I") (List.mem_cons_of_mem _ (List.mem_append_left _ (List.mem_of_getElem? (i := 6) rfl)))) dX12_make_47 ?_
        refine lv_iload_n hx hb dX12_make_50 rfl (lv_at hl 1 rfl) ?_
        refine mst_6 hx hb hK hP hD hS (vp_in_iff.mpr (by have h9 : (i 5).toInt = (i 5).toInt := rfl; omega)) dX12_make_51 (fun H locs hP hD hS => ?_)
        have hI := mInv_c hI (k := 6) (j := ((i 5) : Int32).toNatClampNeg) (x := k1) (show 0 ≤ (k1 : Int32).toInt ∧ (k1 : Int32).toInt ≤ 23 from by omega)
        have hfc : ∀ k, k ∉ ([6] : List Nat) → (updA c 6 ((i 5) : Int32).toNatClampNeg k1) k = c k := fr_cz hfc (by decide +kernel) (by decide +kernel)
        refine lv_aload_n hx hb dX12_make_52 rfl (lv_at hl 0 rfl) ?_
        refine mget_7 hx hb hts (fun _ h => List.mem_cons_of_mem _ (List.mem_append_right _ h)) hown hK hP (hts (.fieldLink RX12 22 "TalePlayModel" "sizeOf" "[I") (List.mem_cons_of_mem _ (List.mem_append_left _ (List.mem_of_getElem? (i := 8) rfl)))) dX12_make_53 ?_
        refine lv_aload_n hx hb dX12_make_56 rfl (lv_at hl 0 rfl) ?_
        refine mget_5 (v := (i 5)) rfl hx hb hts (fun _ h => List.mem_cons_of_mem _ (List.mem_append_right _ h)) hown hK hP (hts (.fieldLink RX12 177 "TalePlayModel" "objects" "I") (List.mem_cons_of_mem _ (List.mem_append_left _ (List.mem_of_getElem? (i := 6) rfl)))) dX12_make_57 ?_
        refine lv_iload_n hx hb dX12_make_60 rfl (lv_at hl 2 rfl) ?_
        refine mst_7 hx hb hK hP hD hS (vp_in_iff.mpr (by have h9 : (i 5).toInt = (i 5).toInt := rfl; omega)) dX12_make_61 (fun H locs hP hD hS => ?_)
        have hI := mInv_c hI (k := 7) (j := ((i 5) : Int32).toNatClampNeg) (x := s1) (show 0 ≤ (s1 : Int32).toInt ∧ (s1 : Int32).toInt ≤ 99 from by omega)
        have hfc : ∀ k, k ∉ ([6, 7] : List Nat) → (updA (updA c 6 ((i 5) : Int32).toNatClampNeg k1) 7 ((i 5) : Int32).toNatClampNeg s1) k = c k := fr_cz hfc (by decide +kernel) (by decide +kernel)
        refine lv_aload_n hx hb dX12_make_62 rfl (lv_at hl 0 rfl) ?_
        refine lv_dup hx hb dX12_make_63 rfl ?_
        refine mget_5 (v := (i 5)) rfl hx hb hts (fun _ h => List.mem_cons_of_mem _ (List.mem_append_right _ h)) hown hK hP (hts (.fieldLink RX12 177 "TalePlayModel" "objects" "I") (List.mem_cons_of_mem _ (List.mem_append_left _ (List.mem_of_getElem? (i := 6) rfl)))) dX12_make_64 ?_
        refine lv_iconst (v := 1) hx hb dX12_make_67 (by decide +kernel) ?_
        refine lv_iadd hx hb dX12_make_68 ?_
        refine lv_topi (fun x7 ex7 => ?_)
        have tx7 := ti_add (a := (i 5).toInt) (b := 1) ex7 rfl (by decide +kernel) (by omega) (by omega)
        refine mput_5 hx hb hts (fun _ h => List.mem_cons_of_mem _ (List.mem_append_right _ h)) hown hK hP hD hS (hts (.fieldLink RX12 177 "TalePlayModel" "objects" "I") (List.mem_cons_of_mem _ (List.mem_append_left _ (List.mem_of_getElem? (i := 6) rfl)))) rfl rfl dX12_make_69 (fun H locs hP hD hS => ?_)
        have hI := mInv_i hI (k := 5) (v := x7) (show 0 ≤ (x7 : Int32).toInt ∧ (x7 : Int32).toInt ≤ 30 from by have h9 : x7.toInt = ((i 5).toInt + 1) := tx7; omega)
        have hfi : ∀ k, k ∉ ([5] : List Nat) → (upd i 5 x7) k = i k := fr_iz hfi (by decide +kernel) (by decide +kernel)
        refine lv_aload_n hx hb dX12_make_72 rfl (lv_at hl 0 rfl) ?_
        refine al_callv (va_runV (As := []) (rest := []) ⟨hx, hb, hml, hown, hts⟩ (s_X12_endTale l D H.size o a t (upd i 5 x7) q (updA (updA c 6 ((i 5) : Int32).toNatClampNeg k1) 7 ((i 5) : Int32).toNatClampNeg s1) d  hI ) (cwV 0 hts gm_X12_make_X12_endTale rfl rfl rfl (by decide +kernel) ⟨Nat.le_of_ble_eq_true rfl, Nat.le_of_ble_eq_true rfl⟩) (pB_V hK hP hD (ci := 12) (q0 := 0) rfl rfl) rfl rfl hl.1 rfl (lv_room (Nat.le_of_ble_eq_true rfl)) dX12_make_73 ⟨Nat.le_of_ble_eq_true rfl, Nat.le_of_ble_eq_true rfl⟩) hS hA hP hD (fun u8 H locs hw8 hP hD hS => ?_)
        obtain ⟨i8, q8, c8, d8⟩ := u8
        have hw8 : True ∧ mInv i8 c8 ∧ (∀ k, k ∉ ([22, 27] : List Nat) → i8 k = (upd i 5 x7) k) ∧ (∀ k, k ∉ ([] : List Nat) → c8 k = (updA (updA c 6 ((i 5) : Int32).toNatClampNeg k1) 7 ((i 5) : Int32).toNatClampNeg s1) k) ∧ ((i8 22).toInt = -9) ∧ ((i8 27).toInt = 0) := hw8
        obtain ⟨hw8, hI, hei8, hec8, hxp8_0, hxp8_1⟩ := hw8
        have hxp8_0 : (i8 22).toInt = -9 := hxp8_0
        have hxp8_1 : (i8 27).toInt = 0 := hxp8_1
        have hfi : ∀ k, k ∉ ([5, 22, 27] : List Nat) → i8 k = i k := fr_z hfi hei8 (by decide +kernel) (by decide +kernel)
        have hfc : ∀ k, k ∉ ([6, 7] : List Nat) → c8 k = c k := fr_z hfc hec8 (by decide +kernel) (by decide +kernel)
        have hP : va_P D vwCl (mW o a t i8 q8 c8 d8) H := hP
        have hD : va_D A (mW o a t i8 q8 c8 d8) := hD
        have hob9 : (i8 5).toInt = (i 5).toInt + 1 := by rw [show i8 5 = (upd i 5 x7) 5 from hei8 5 (by decide +kernel)]; exact tx7
        refine lv_aload_n hx hb dX12_make_76 rfl (lv_at hl 0 rfl) ?_
        refine mget_5 (v := (i8 5)) rfl hx hb hts (fun _ h => List.mem_cons_of_mem _ (List.mem_append_right _ h)) hown hK hP (hts (.fieldLink RX12 177 "TalePlayModel" "objects" "I") (List.mem_cons_of_mem _ (List.mem_append_left _ (List.mem_of_getElem? (i := 6) rfl)))) dX12_make_77 ?_
        have rb5_i8 : 0 ≤ (i8 5).toInt ∧ (i8 5).toInt ≤ 30 := hI.1 5
        refine lv_iconst (v := 1) hx hb dX12_make_80 (by decide +kernel) ?_
        refine lv_isub hx hb dX12_make_81 ?_
        refine lv_topi (fun x9 ex9 => ?_)
        have tx9 := ti_sub (a := (i8 5).toInt) (b := 1) ex9 rfl (by decide +kernel) (by omega) (by omega)
        exact rw_iret (i8, q8, c8, d8) hx hb hr hlocks hS (hK.sub (tys' := []) [] rfl) hP hD dX12_make_82 ⟨trivial, hI, fr_w hfi (by decide +kernel), fr_w hfc (by decide +kernel), (show SJ (c8 3) (c8 6) (c8 9) (c8 10) (c8 11) (c8 13) ((i8 2) : Int32).toInt ((i8 5) : Int32).toInt ((i8 8) : Int32).toInt from by rw [show c8 3 = (updA (updA c 6 ((i 5) : Int32).toNatClampNeg k1) 7 ((i 5) : Int32).toNatClampNeg s1) 3 from hec8 3 (by decide +kernel), show c8 6 = (updA (updA c 6 ((i 5) : Int32).toNatClampNeg k1) 7 ((i 5) : Int32).toNatClampNeg s1) 6 from hec8 6 (by decide +kernel), show c8 9 = (updA (updA c 6 ((i 5) : Int32).toNatClampNeg k1) 7 ((i 5) : Int32).toNatClampNeg s1) 9 from hec8 9 (by decide +kernel), show c8 10 = (updA (updA c 6 ((i 5) : Int32).toNatClampNeg k1) 7 ((i 5) : Int32).toNatClampNeg s1) 10 from hec8 10 (by decide +kernel), show c8 11 = (updA (updA c 6 ((i 5) : Int32).toNatClampNeg k1) 7 ((i 5) : Int32).toNatClampNeg s1) 11 from hec8 11 (by decide +kernel), show c8 13 = (updA (updA c 6 ((i 5) : Int32).toNatClampNeg k1) 7 ((i 5) : Int32).toNatClampNeg s1) 13 from hec8 13 (by decide +kernel), show i8 2 = (upd i 5 x7) 2 from hei8 2 (by decide +kernel), show i8 5 = (upd i 5 x7) 5 from hei8 5 (by decide +kernel), show i8 8 = (upd i 5 x7) 8 from hei8 8 (by decide +kernel)]; show SJ (c 3) (upd (c 6) ((i 5) : Int32).toNatClampNeg k1) (c 9) (c 10) (c 11) (c 13) (i 2).toInt x7.toInt (i 8).toInt; rw [tx7]; exact SJ_make (N := (i 5).toInt) hs_S (by omega) (by omega) (mI_le hI0) (fun o => (mI_mi hI0 o).1)), (show TJ (c8 3) (c8 6) (c8 23) (c8 24) (c8 29) (c8 30) ((i8 5) : Int32).toInt ((i8 22) : Int32).toInt ((i8 27) : Int32).toInt from TJ_no hxp8_0), (show (¬ (0 ≤ k1.toInt ∧ k1.toInt < (i 2).toInt ∧ 0 ≤ s1.toInt ∧ s1.toInt ≤ 99) ∧ (x9 : Int32).toInt = -1 ∧ ((i8 5) : Int32).toInt = (i 5).toInt) ∨ (0 ≤ k1.toInt ∧ k1.toInt < (i 2).toInt ∧ 0 ≤ s1.toInt ∧ s1.toInt ≤ 99 ∧ 30 ≤ (i 5).toInt ∧ (x9 : Int32).toInt = -2 ∧ ((i8 5) : Int32).toInt = (i 5).toInt) ∨ (0 ≤ k1.toInt ∧ k1.toInt < (i 2).toInt ∧ 0 ≤ s1.toInt ∧ s1.toInt ≤ 99 ∧ (i 5).toInt ≤ 29 ∧ (x9 : Int32).toInt = (i 5).toInt ∧ ((i8 5) : Int32).toInt = (i 5).toInt + 1) from by have h53 : x9.toInt = ((i8 5).toInt - 1) := tx9; omega), (show OU (c 6) (c8 6) k1 s1 (i 2) (i 5) from Or.inr ⟨by omega, by omega, by omega, by omega, by omega, by rw [show c8 6 = (updA (updA c 6 ((i 5) : Int32).toNatClampNeg k1) 7 ((i 5) : Int32).toNatClampNeg s1) 6 from hec8 6 (by decide +kernel)]; rfl⟩)⟩
      · have f6 := (ti_eq (a := (i 5).toInt) (b := 30) rfl (by decide +kernel)).mp c6
        refine lv_bipush (v := (-2)) hx hb dX12_make_39 (by decide +kernel) ?_
        exact rw_iret (i, q, c, d) hx hb hr hlocks hS (hK.sub (tys' := []) [] rfl) hP hD dX12_make_41 ⟨trivial, hI, fr_w hfi (by decide +kernel), fr_w hfc (by decide +kernel), (show SJ (c 3) (c 6) (c 9) (c 10) (c 11) (c 13) ((i 2) : Int32).toInt ((i 5) : Int32).toInt ((i 8) : Int32).toInt from hs_S), (show TJ (c 3) (c 6) (c 23) (c 24) (c 29) (c 30) ((i 5) : Int32).toInt ((i 22) : Int32).toInt ((i 27) : Int32).toInt from hs_J), (show (¬ (0 ≤ k1.toInt ∧ k1.toInt < (i 2).toInt ∧ 0 ≤ s1.toInt ∧ s1.toInt ≤ 99) ∧ ((-2) : Int32).toInt = -1 ∧ ((i 5) : Int32).toInt = (i 5).toInt) ∨ (0 ≤ k1.toInt ∧ k1.toInt < (i 2).toInt ∧ 0 ≤ s1.toInt ∧ s1.toInt ≤ 99 ∧ 30 ≤ (i 5).toInt ∧ ((-2) : Int32).toInt = -2 ∧ ((i 5) : Int32).toInt = (i 5).toInt) ∨ (0 ≤ k1.toInt ∧ k1.toInt < (i 2).toInt ∧ 0 ≤ s1.toInt ∧ s1.toInt ≤ 99 ∧ (i 5).toInt ≤ 29 ∧ ((-2) : Int32).toInt = (i 5).toInt ∧ ((i 5) : Int32).toInt = (i 5).toInt + 1) from by have h53 : ((-2) : Int32).toInt = -2 := (by decide +kernel); omega), (show OU (c 6) (c 6) k1 s1 (i 2) (i 5) from Or.inl ⟨by omega, rfl⟩)⟩
    · have f5 := fl_f hw4 c5
      refine lv_iconst (v := (-1)) hx hb dX12_make_28 (by decide +kernel) ?_
      exact rw_iret (i, q, c, d) hx hb hr hlocks hS (hK.sub (tys' := []) [] rfl) hP hD dX12_make_29 ⟨trivial, hI, fr_w hfi (by decide +kernel), fr_w hfc (by decide +kernel), (show SJ (c 3) (c 6) (c 9) (c 10) (c 11) (c 13) ((i 2) : Int32).toInt ((i 5) : Int32).toInt ((i 8) : Int32).toInt from hs_S), (show TJ (c 3) (c 6) (c 23) (c 24) (c 29) (c 30) ((i 5) : Int32).toInt ((i 22) : Int32).toInt ((i 27) : Int32).toInt from hs_J), (show (¬ (0 ≤ k1.toInt ∧ k1.toInt < (i 2).toInt ∧ 0 ≤ s1.toInt ∧ s1.toInt ≤ 99) ∧ ((-1) : Int32).toInt = -1 ∧ ((i 5) : Int32).toInt = (i 5).toInt) ∨ (0 ≤ k1.toInt ∧ k1.toInt < (i 2).toInt ∧ 0 ≤ s1.toInt ∧ s1.toInt ≤ 99 ∧ 30 ≤ (i 5).toInt ∧ ((-1) : Int32).toInt = -2 ∧ ((i 5) : Int32).toInt = (i 5).toInt) ∨ (0 ≤ k1.toInt ∧ k1.toInt < (i 2).toInt ∧ 0 ≤ s1.toInt ∧ s1.toInt ≤ 99 ∧ (i 5).toInt ≤ 29 ∧ ((-1) : Int32).toInt = (i 5).toInt ∧ ((i 5) : Int32).toInt = (i 5).toInt + 1) from by have h53 : ((-1) : Int32).toInt = -1 := (by decide +kernel); omega), (show OU (c 6) (c 6) k1 s1 (i 2) (i 5) from Or.inl ⟨by omega, rfl⟩)⟩

def wm_X3_open_e : List Cond := .code yX3_open cX3_open 3 (some .int) :: (([.fieldLink RX3 9 "TalePlay$Casts" "sorts" "[I", .fieldLink RX3 27 "TalePlay$Casts" "made" "I", .fieldLink RX3 15 "TalePlay$Casts" "lengths" "[I"] : List Cond) ++ wsX30)
set_option maxHeartbeats 4000000 in
set_option maxRecDepth 100000 in
theorem x_X3_open_e (l : Launch) (D : va_G) (sz : Nat) (sk : Value) (a : Nat → Nat) (t : Nat → ClassId) (i : Nat → Int32) (q : Int64) (c : Nat → Nat → Int32) (d : Nat → Nat → Int64) (s1 : Int32) (n1 : Int32) (hI : xInv i c) (hs1 : 1 ≤ s1.toInt ∧ s1.toInt ≤ 5) (hn1 : 0 ≤ n1.toInt ∧ n1.toInt ≤ 12) (hm : (i 165).toInt ≤ 9) : Met l yX3_open wm_X3_open_e ({ frames := 0, cells := 0, slots := 0, locals := 0 }) (va_Pc [.ref (a 161), .int s1, .int n1] (yB (a 186) D sz (xwT sk a t i q c d) (xtT t))) (va_Qi (fun (r : Int32) (u : MS) => (r.toInt = (i 165).toInt) ∧ xInv u.1 u.2.2.1 ∧ (∀ k, k ∉ ([165] : List Nat) → u.1 k = i k) ∧ (∀ k, k ∉ ([162, 163] : List Nat) → u.2.2.1 k = c k) ∧ ((u.1 165).toInt = (i 165).toInt + 1) ∧ ((u.2.2.1 162) = upd (c 162) (i 165).toNatClampNeg s1) ∧ ((u.2.2.1 163) = upd (c 163) (i 165).toNatClampNeg n1)) (oC D (va_A (xwT sk a t i q c d) sz) (fun u : MS => xwT sk a t u.1 u.2.1 u.2.2.1 u.2.2.2) (fun _ => [])) (va_A (xwT sk a t i q c d) sz)) 0 0 (va_A (xwT sk a t i q c d) sz) := by
  refine Met.ofW (cc := cX3_open) (maxL := 3) (ret := (some .int)) (by decide +kernel) rfl ?_
  intro p e s m args below meth cd s₁ B hml hv
  obtain ⟨rfl, ⟨hsz, hP, hK, hD0⟩, hN, hZ, hBW⟩ := hv
  have hx := B.exec
  have hb := B.bytes
  have hr := B.returns
  have hts := atoms_spec (ws := wm_X3_open_e) B.pre
  have hown : s.vm.findClass RX3 = some m.cls := findClass_of_methodNamed B.named
  have hlocks := B.notSynchronized
  subst hsz
  have hD := hD0.self (sz := s.heap.size)
  have hZ := xZ_A hZ hP hBW
  generalize hAe : va_A (xwT sk a t i q c d) s.heap.size = A at hD hZ ⊢
  have hA : ∀ q : Nat, s.heap.size ≤ q → A q := fun q h => by rw [← hAe]; exact Or.inr h
  have hS : va_S A s.heap s.heap [] := va_S.rf
  have hfi : ∀ k, k ∉ ([] : List Nat) → i k = i k := fun _ _ => rfl
  have hfc : ∀ k, k ∉ ([] : List Nat) → c k = c k := fun _ _ => rfl
  have hl := lv_entry ([.ref (a 161), .int s1, .int n1]) (n := 3) (Nat.le_of_ble_eq_true rfl)
  rw [lg_entry_eq]
  generalize (lg_sl ([.ref (a 161), .int s1, .int n1]) ++ List.replicate (3 - (lg_sl ([.ref (a 161), .int s1, .int n1])).length) Slot.unset).toArray = ls at hl ⊢
  have hl : lv_has ls 3 [(0, .ref (a 161)), (1, .int s1), (2, .int n1)] := hl
  refine lv_aload_n hx hb dX3_open_0 rfl (lv_at hl 0 rfl) ?_
  refine xgT_C_sorts hx hb hts (fun _ h => List.mem_cons_of_mem _ (List.mem_append_right _ h)) hown hK hP (hts (.fieldLink RX3 9 "TalePlay$Casts" "sorts" "[I") (List.mem_cons_of_mem _ (List.mem_append_left _ (List.mem_of_getElem? (i := 0) rfl)))) dX3_open_1 ?_
  refine lv_aload_n hx hb dX3_open_4 rfl (lv_at hl 0 rfl) ?_
  refine xgT_C_made (v := (i 165)) rfl hx hb hts (fun _ h => List.mem_cons_of_mem _ (List.mem_append_right _ h)) hown hK hP (hts (.fieldLink RX3 27 "TalePlay$Casts" "made" "I") (List.mem_cons_of_mem _ (List.mem_append_left _ (List.mem_of_getElem? (i := 1) rfl)))) dX3_open_5 ?_
  have rb165_i : 0 ≤ (i 165).toInt ∧ (i 165).toInt ≤ 10 := hI.1 165
  refine lv_iload_n hx hb dX3_open_8 rfl (lv_at hl 1 rfl) ?_
  refine xsT_162 hx hb hK hP hD hS (vp_in_iff.mpr (by have h9 : (i 165).toInt = (i 165).toInt := rfl; omega)) dX3_open_9 (fun H locs hP hD hS => ?_)
  have hI := xInv_c hI (k := 162) (j := ((i 165) : Int32).toNatClampNeg) (x := s1) (show 0 ≤ (s1 : Int32).toInt ∧ (s1 : Int32).toInt ≤ 5 from by omega)
  have hfc : ∀ k, k ∉ ([162] : List Nat) → (updA c 162 ((i 165) : Int32).toNatClampNeg s1) k = c k := fr_cz hfc (by decide +kernel) (by decide +kernel)
  refine lv_aload_n hx hb dX3_open_10 rfl (lv_at hl 0 rfl) ?_
  refine xgT_C_lengths hx hb hts (fun _ h => List.mem_cons_of_mem _ (List.mem_append_right _ h)) hown hK hP (hts (.fieldLink RX3 15 "TalePlay$Casts" "lengths" "[I") (List.mem_cons_of_mem _ (List.mem_append_left _ (List.mem_of_getElem? (i := 2) rfl)))) dX3_open_11 ?_
  refine lv_aload_n hx hb dX3_open_14 rfl (lv_at hl 0 rfl) ?_
  refine xgT_C_made (v := (i 165)) rfl hx hb hts (fun _ h => List.mem_cons_of_mem _ (List.mem_append_right _ h)) hown hK hP (hts (.fieldLink RX3 27 "TalePlay$Casts" "made" "I") (List.mem_cons_of_mem _ (List.mem_append_left _ (List.mem_of_getElem? (i := 1) rfl)))) dX3_open_15 ?_
  refine lv_iload_n hx hb dX3_open_18 rfl (lv_at hl 2 rfl) ?_
  refine xsT_163 hx hb hK hP hD hS (vp_in_iff.mpr (by have h9 : (i 165).toInt = (i 165).toInt := rfl; omega)) dX3_open_19 (fun H locs hP hD hS => ?_)
  have hI := xInv_c hI (k := 163) (j := ((i 165) : Int32).toNatClampNeg) (x := n1) (show 0 ≤ (n1 : Int32).toInt ∧ (n1 : Int32).toInt ≤ 12 from by omega)
  have hfc : ∀ k, k ∉ ([162, 163] : List Nat) → (updA (updA c 162 ((i 165) : Int32).toNatClampNeg s1) 163 ((i 165) : Int32).toNatClampNeg n1) k = c k := fr_cz hfc (by decide +kernel) (by decide +kernel)
  refine lv_aload_n hx hb dX3_open_20 rfl (lv_at hl 0 rfl) ?_
  refine lv_dup hx hb dX3_open_21 rfl ?_
  refine xgT_C_made (v := (i 165)) rfl hx hb hts (fun _ h => List.mem_cons_of_mem _ (List.mem_append_right _ h)) hown hK hP (hts (.fieldLink RX3 27 "TalePlay$Casts" "made" "I") (List.mem_cons_of_mem _ (List.mem_append_left _ (List.mem_of_getElem? (i := 1) rfl)))) dX3_open_22 ?_
  refine lv_dup_x1 hx hb dX3_open_25 rfl rfl ?_
  refine lv_iconst (v := 1) hx hb dX3_open_26 (by decide +kernel) ?_
  refine lv_iadd hx hb dX3_open_27 ?_
  refine lv_topi (fun x1 ex1 => ?_)
  have tx1 := ti_add (a := (i 165).toInt) (b := 1) ex1 rfl (by decide +kernel) (by omega) (by omega)
  refine xpT_C_made hx hb hts (fun _ h => List.mem_cons_of_mem _ (List.mem_append_right _ h)) hown hK hP hD hS (hts (.fieldLink RX3 27 "TalePlay$Casts" "made" "I") (List.mem_cons_of_mem _ (List.mem_append_left _ (List.mem_of_getElem? (i := 1) rfl)))) rfl rfl dX3_open_28 (fun H locs hP hD hS => ?_)
  have hI := xInv_i hI (k := 165) (v := x1) (show 0 ≤ (x1 : Int32).toInt ∧ (x1 : Int32).toInt ≤ 10 from by have h9 : x1.toInt = ((i 165).toInt + 1) := tx1; omega)
  have hfi : ∀ k, k ∉ ([165] : List Nat) → (upd i 165 x1) k = i k := fr_iz hfi (by decide +kernel) (by decide +kernel)
  exact rw_iret ((upd i 165 x1), q, (updA (updA c 162 ((i 165) : Int32).toNatClampNeg s1) 163 ((i 165) : Int32).toNatClampNeg n1), d) hx hb hr hlocks hS (hK.sub (tys' := []) [] rfl) hP hD dX3_open_31 ⟨(show (i 165).toInt = (i 165).toInt from by omega), hI, fr_w hfi (by decide +kernel), fr_w hfc (by decide +kernel), (show (x1 : Int32).toInt = (i 165).toInt + 1 from by have h50 : x1.toInt = ((i 165).toInt + 1) := tx1; omega), (show ((updA (updA c 162 ((i 165) : Int32).toNatClampNeg s1) 163 ((i 165) : Int32).toNatClampNeg n1) 162) = upd (c 162) (i 165).toNatClampNeg s1 from rfl), (show ((updA (updA c 162 ((i 165) : Int32).toNatClampNeg s1) 163 ((i 165) : Int32).toNatClampNeg n1) 163) = upd (c 163) (i 165).toNatClampNeg n1 from rfl)⟩

def wm_X11_cast_e : List Cond := .code yX11_cast cX11_cast 3 (some .int) :: ((([.fieldLink RX11 60 "TalePlay" "casts" "LTalePlay$Casts;", .fieldLink RX11 334 "TalePlay$Casts" "made" "I", .methodLink RX11 337 yX3_open, .instanceMethod yX3_open, .selects RX3 yX3_open yX3_open, .initialized RX3, .code yX3_open cX3_open 3 (some .int), .fieldLink RX3 9 "TalePlay$Casts" "sorts" "[I", .fieldLink RX3 27 "TalePlay$Casts" "made" "I", .fieldLink RX3 15 "TalePlay$Casts" "lengths" "[I", .methodLink RX11 128 yX11_answerFinding, .instanceMethod yX11_answerFinding, .selects RX11 yX11_answerFinding yX11_answerFinding, .initialized RX11, .code yX11_answerFinding cX11_answerFinding 2 (some .int), .fieldLink RX11 72 "TalePlay" "latestFinding" "I"] : List Cond) ++ ([.fieldLink RX11 68 "TalePlay" "findingCounts" "[I"] : List Cond)) ++ wsX110 ++ wsX30)
set_option maxRecDepth 20000 in
theorem gm_X11_cast_e_X3_open_e_337 : GoodIn wm_X11_cast_e (wsV RX11 337 RX3 yX3_open wm_X3_open_e) := goodIn_w (List.forall_mem_append.mpr ⟨List.forall_mem_cons.mpr ⟨List.mem_cons_of_mem _ (List.mem_append_left _ (List.mem_append_left _ (List.mem_append_left _ (List.mem_of_getElem? (i := 2) rfl)))), List.forall_mem_cons.mpr ⟨List.mem_cons_of_mem _ (List.mem_append_left _ (List.mem_append_left _ (List.mem_append_left _ (List.mem_of_getElem? (i := 3) rfl)))), List.forall_mem_cons.mpr ⟨List.mem_cons_of_mem _ (List.mem_append_left _ (List.mem_append_left _ (List.mem_append_left _ (List.mem_of_getElem? (i := 4) rfl)))), List.forall_mem_cons.mpr ⟨List.mem_cons_of_mem _ (List.mem_append_left _ (List.mem_append_left _ (List.mem_append_left _ (List.mem_of_getElem? (i := 5) rfl)))), (fun _ h => absurd h List.not_mem_nil)⟩⟩⟩⟩, List.forall_mem_cons.mpr ⟨List.mem_cons_of_mem _ (List.mem_append_left _ (List.mem_append_left _ (List.mem_append_left _ (List.mem_of_getElem? (i := 6) rfl)))), List.forall_mem_append.mpr ⟨List.forall_mem_cons.mpr ⟨List.mem_cons_of_mem _ (List.mem_append_left _ (List.mem_append_left _ (List.mem_append_left _ (List.mem_of_getElem? (i := 7) rfl)))), List.forall_mem_cons.mpr ⟨List.mem_cons_of_mem _ (List.mem_append_left _ (List.mem_append_left _ (List.mem_append_left _ (List.mem_of_getElem? (i := 8) rfl)))), List.forall_mem_cons.mpr ⟨List.mem_cons_of_mem _ (List.mem_append_left _ (List.mem_append_left _ (List.mem_append_left _ (List.mem_of_getElem? (i := 9) rfl)))), (fun _ h => absurd h List.not_mem_nil)⟩⟩⟩, (fun _ h => List.mem_cons_of_mem _ (List.mem_append_right _ h))⟩⟩⟩) (by decide +kernel)
set_option maxRecDepth 20000 in
theorem gm_X11_cast_e_X11_answerFinding_128 : GoodIn wm_X11_cast_e (wsV RX11 128 RX11 yX11_answerFinding wm_X11_answerFinding) := goodIn_w (List.forall_mem_append.mpr ⟨List.forall_mem_cons.mpr ⟨List.mem_cons_of_mem _ (List.mem_append_left _ (List.mem_append_left _ (List.mem_append_left _ (List.mem_of_getElem? (i := 10) rfl)))), List.forall_mem_cons.mpr ⟨List.mem_cons_of_mem _ (List.mem_append_left _ (List.mem_append_left _ (List.mem_append_left _ (List.mem_of_getElem? (i := 11) rfl)))), List.forall_mem_cons.mpr ⟨List.mem_cons_of_mem _ (List.mem_append_left _ (List.mem_append_left _ (List.mem_append_left _ (List.mem_of_getElem? (i := 12) rfl)))), List.forall_mem_cons.mpr ⟨List.mem_cons_of_mem _ (List.mem_append_left _ (List.mem_append_left _ (List.mem_append_left _ (List.mem_of_getElem? (i := 13) rfl)))), (fun _ h => absurd h List.not_mem_nil)⟩⟩⟩⟩, List.forall_mem_cons.mpr ⟨List.mem_cons_of_mem _ (List.mem_append_left _ (List.mem_append_left _ (List.mem_append_left _ (List.mem_of_getElem? (i := 14) rfl)))), List.forall_mem_append.mpr ⟨List.forall_mem_cons.mpr ⟨List.mem_cons_of_mem _ (List.mem_append_left _ (List.mem_append_left _ (List.mem_append_left _ (List.mem_of_getElem? (i := 15) rfl)))), List.forall_mem_cons.mpr ⟨List.mem_cons_of_mem _ (List.mem_append_left _ (List.mem_append_left _ (List.mem_append_right _ (List.mem_of_getElem? (i := 0) rfl)))), (fun _ h => absurd h List.not_mem_nil)⟩⟩, (fun _ h => List.mem_cons_of_mem _ (List.mem_append_left _ (List.mem_append_right _ h)))⟩⟩⟩) (by decide +kernel)
set_option maxHeartbeats 4000000 in
set_option maxRecDepth 100000 in
theorem x_X11_cast_e (l : Launch) (D : va_G) (sz : Nat) (sk : Value) (a : Nat → Nat) (t : Nat → ClassId) (i : Nat → Int32) (q : Int64) (c : Nat → Nat → Int32) (d : Nat → Nat → Int64) (s1 : Int32) (n1 : Int32) (hI : xInv i c) : Met l yX11_cast wm_X11_cast_e ({ frames := 1, cells := 0, slots := 0, locals := 22 }) (va_Pc [.ref (a 100), .int s1, .int n1] (yB (a 186) D sz (xwT sk a t i q c d) (xtT t))) (va_Qi (fun (r : Int32) (u : MS) => True ∧ xInv u.1 u.2.2.1 ∧ (∀ k, k ∉ ([102, 165] : List Nat) → u.1 k = i k) ∧ (∀ k, k ∉ ([101, 162, 163] : List Nat) → u.2.2.1 k = c k) ∧ ((¬ (1 ≤ s1.toInt ∧ s1.toInt ≤ 5 ∧ n1.toInt ≤ 12) ∧ r.toInt = -1 ∧ (u.1 165).toInt = (i 165).toInt) ∨ (1 ≤ s1.toInt ∧ s1.toInt ≤ 5 ∧ n1.toInt ≤ 12 ∧ 10 ≤ (i 165).toInt ∧ r.toInt = -2 ∧ (u.1 165).toInt = (i 165).toInt) ∨ (1 ≤ s1.toInt ∧ s1.toInt ≤ 5 ∧ n1.toInt ≤ 12 ∧ (i 165).toInt ≤ 9 ∧ n1.toInt < 0 ∧ r.toInt = -3 ∧ (u.1 165).toInt = (i 165).toInt) ∨ (1 ≤ s1.toInt ∧ s1.toInt ≤ 5 ∧ n1.toInt ≤ 12 ∧ (i 165).toInt ≤ 9 ∧ 0 ≤ n1.toInt ∧ r.toInt = (i 165).toInt ∧ (u.1 165).toInt = (i 165).toInt + 1)) ∧ (CUx (c 162) (c 163) (u.2.2.1 162) (u.2.2.1 163) s1 n1 (i 165))) (oC D (va_A (xwT sk a t i q c d) sz) (fun u : MS => xwT sk a t u.1 u.2.1 u.2.2.1 u.2.2.2) (fun _ => [])) (va_A (xwT sk a t i q c d) sz)) 0 0 (va_A (xwT sk a t i q c d) sz) := by
  refine Met.ofW (cc := cX11_cast) (maxL := 3) (ret := (some .int)) (by decide +kernel) rfl ?_
  intro p e s m args below meth cd s₁ B hml hv
  obtain ⟨rfl, ⟨hsz, hP, hK, hD0⟩, hN, hZ, hBW⟩ := hv
  have hx := B.exec
  have hb := B.bytes
  have hr := B.returns
  have hts := atoms_spec (ws := wm_X11_cast_e) B.pre
  have hown : s.vm.findClass RX11 = some m.cls := findClass_of_methodNamed B.named
  have hlocks := B.notSynchronized
  subst hsz
  have hD := hD0.self (sz := s.heap.size)
  have hZ := xZ_A hZ hP hBW
  generalize hAe : va_A (xwT sk a t i q c d) s.heap.size = A at hD hZ ⊢
  have hA : ∀ q : Nat, s.heap.size ≤ q → A q := fun q h => by rw [← hAe]; exact Or.inr h
  have hS : va_S A s.heap s.heap [] := va_S.rf
  have hfi : ∀ k, k ∉ ([] : List Nat) → i k = i k := fun _ _ => rfl
  have hfc : ∀ k, k ∉ ([] : List Nat) → c k = c k := fun _ _ => rfl
  have hl := lv_entry ([.ref (a 100), .int s1, .int n1]) (n := 3) (Nat.le_of_ble_eq_true rfl)
  rw [lg_entry_eq]
  generalize (lg_sl ([.ref (a 100), .int s1, .int n1]) ++ List.replicate (3 - (lg_sl ([.ref (a 100), .int s1, .int n1])).length) Slot.unset).toArray = ls at hl ⊢
  have hl : lv_has ls 3 [(0, .ref (a 100)), (1, .int s1), (2, .int n1)] := hl
  have rb165_i : 0 ≤ (i 165).toInt ∧ (i 165).toInt ≤ 10 := hI.1 165
  refine lv_iload_n hx hb dX11_cast_0 rfl (lv_at hl 1 rfl) ?_
  refine lv_iconst (v := 1) hx hb dX11_cast_1 (by decide +kernel) ?_
  refine lv_icmp_lt (tgt := 16) hx hb dX11_cast_2 (by decide +kernel) (fun c1 => ?_) (fun c1 => ?_)
  · have f1 := (ti_lt (a := s1.toInt) (b := 1) rfl (by decide +kernel)).mp c1
    refine lv_iconst (v := (-1)) hx hb dX11_cast_16 (by decide +kernel) ?_
    exact rw_iret (i, q, c, d) hx hb hr hlocks hS (hK.sub (tys' := []) [] rfl) hP hD dX11_cast_17 ⟨trivial, hI, fr_w hfi (by decide +kernel), fr_w hfc (by decide +kernel), (show (¬ (1 ≤ s1.toInt ∧ s1.toInt ≤ 5 ∧ n1.toInt ≤ 12) ∧ ((-1) : Int32).toInt = -1 ∧ ((i 165) : Int32).toInt = (i 165).toInt) ∨ (1 ≤ s1.toInt ∧ s1.toInt ≤ 5 ∧ n1.toInt ≤ 12 ∧ 10 ≤ (i 165).toInt ∧ ((-1) : Int32).toInt = -2 ∧ ((i 165) : Int32).toInt = (i 165).toInt) ∨ (1 ≤ s1.toInt ∧ s1.toInt ≤ 5 ∧ n1.toInt ≤ 12 ∧ (i 165).toInt ≤ 9 ∧ n1.toInt < 0 ∧ ((-1) : Int32).toInt = -3 ∧ ((i 165) : Int32).toInt = (i 165).toInt) ∨ (1 ≤ s1.toInt ∧ s1.toInt ≤ 5 ∧ n1.toInt ≤ 12 ∧ (i 165).toInt ≤ 9 ∧ 0 ≤ n1.toInt ∧ ((-1) : Int32).toInt = (i 165).toInt ∧ ((i 165) : Int32).toInt = (i 165).toInt + 1) from by have h54 : ((-1) : Int32).toInt = -1 := (by decide +kernel); omega), (show CUx (c 162) (c 163) (c 162) (c 163) s1 n1 (i 165) from Or.inl ⟨by unfold CNew; omega, rfl, rfl⟩)⟩
  · have f1 := mt (ti_lt (a := s1.toInt) (b := 1) rfl (by decide +kernel)).mpr c1
    refine lv_iload_n hx hb dX11_cast_5 rfl (lv_at hl 1 rfl) ?_
    refine lv_iconst (v := 5) hx hb dX11_cast_6 (by decide +kernel) ?_
    refine lv_icmp_gt (tgt := 16) hx hb dX11_cast_7 (by decide +kernel) (fun c2 => ?_) (fun c2 => ?_)
    · have f2 := (ti_lt (a := 5) (b := s1.toInt) (by decide +kernel) rfl).mp c2
      refine lv_iconst (v := (-1)) hx hb dX11_cast_16 (by decide +kernel) ?_
      exact rw_iret (i, q, c, d) hx hb hr hlocks hS (hK.sub (tys' := []) [] rfl) hP hD dX11_cast_17 ⟨trivial, hI, fr_w hfi (by decide +kernel), fr_w hfc (by decide +kernel), (show (¬ (1 ≤ s1.toInt ∧ s1.toInt ≤ 5 ∧ n1.toInt ≤ 12) ∧ ((-1) : Int32).toInt = -1 ∧ ((i 165) : Int32).toInt = (i 165).toInt) ∨ (1 ≤ s1.toInt ∧ s1.toInt ≤ 5 ∧ n1.toInt ≤ 12 ∧ 10 ≤ (i 165).toInt ∧ ((-1) : Int32).toInt = -2 ∧ ((i 165) : Int32).toInt = (i 165).toInt) ∨ (1 ≤ s1.toInt ∧ s1.toInt ≤ 5 ∧ n1.toInt ≤ 12 ∧ (i 165).toInt ≤ 9 ∧ n1.toInt < 0 ∧ ((-1) : Int32).toInt = -3 ∧ ((i 165) : Int32).toInt = (i 165).toInt) ∨ (1 ≤ s1.toInt ∧ s1.toInt ≤ 5 ∧ n1.toInt ≤ 12 ∧ (i 165).toInt ≤ 9 ∧ 0 ≤ n1.toInt ∧ ((-1) : Int32).toInt = (i 165).toInt ∧ ((i 165) : Int32).toInt = (i 165).toInt + 1) from by have h54 : ((-1) : Int32).toInt = -1 := (by decide +kernel); omega), (show CUx (c 162) (c 163) (c 162) (c 163) s1 n1 (i 165) from Or.inl ⟨by unfold CNew; omega, rfl, rfl⟩)⟩
    · have f2 := mt (ti_lt (a := 5) (b := s1.toInt) (by decide +kernel) rfl).mpr c2
      refine lv_iload_n hx hb dX11_cast_10 rfl (lv_at hl 2 rfl) ?_
      refine lv_bipush (v := 12) hx hb dX11_cast_11 (by decide +kernel) ?_
      refine lv_icmp_le (tgt := 18) hx hb dX11_cast_13 (by decide +kernel) (fun c3 => ?_) (fun c3 => ?_)
      · have f3 := (ti_le (a := n1.toInt) (b := 12) rfl (by decide +kernel)).mp c3
        refine lv_aload_n hx hb dX11_cast_18 rfl (lv_at hl 0 rfl) ?_
        refine xgT_X_casts hx hb hts (fun _ h => List.mem_cons_of_mem _ (List.mem_append_left _ (List.mem_append_right _ h))) hown hK hP (hts (.fieldLink RX11 60 "TalePlay" "casts" "LTalePlay$Casts;") (List.mem_cons_of_mem _ (List.mem_append_left _ (List.mem_append_left _ (List.mem_append_left _ (List.mem_of_getElem? (i := 0) rfl)))))) dX11_cast_19 ?_
        refine xgT_C_made (v := (i 165)) rfl hx hb hts (fun _ h => List.mem_cons_of_mem _ (List.mem_append_right _ h)) hown hK hP (hts (.fieldLink RX11 334 "TalePlay$Casts" "made" "I") (List.mem_cons_of_mem _ (List.mem_append_left _ (List.mem_append_left _ (List.mem_append_left _ (List.mem_of_getElem? (i := 1) rfl)))))) dX11_cast_22 ?_
        refine lv_bipush (v := 10) hx hb dX11_cast_25 (by decide +kernel) ?_
        refine lv_icmp_lt (tgt := 33) hx hb dX11_cast_27 (by decide +kernel) (fun c4 => ?_) (fun c4 => ?_)
        · have f4 := (ti_lt (a := (i 165).toInt) (b := 10) rfl (by decide +kernel)).mp c4
          refine lv_iload_n hx hb dX11_cast_33 rfl (lv_at hl 2 rfl) ?_
          refine lv_if_ge (tgt := 43) hx hb dX11_cast_34 (by decide +kernel) (fun c5 => ?_) (fun c5 => ?_)
          · have f5 := (ti_le (a := 0) (b := n1.toInt) (by decide +kernel) rfl).mp c5
            refine lv_aload_n hx hb dX11_cast_43 rfl (lv_at hl 0 rfl) ?_
            refine xgT_X_casts hx hb hts (fun _ h => List.mem_cons_of_mem _ (List.mem_append_left _ (List.mem_append_right _ h))) hown hK hP (hts (.fieldLink RX11 60 "TalePlay" "casts" "LTalePlay$Casts;") (List.mem_cons_of_mem _ (List.mem_append_left _ (List.mem_append_left _ (List.mem_append_left _ (List.mem_of_getElem? (i := 0) rfl)))))) dX11_cast_44 ?_
            refine lv_iload_n hx hb dX11_cast_47 rfl (lv_at hl 1 rfl) ?_
            refine lv_iload_n hx hb dX11_cast_48 rfl (lv_at hl 2 rfl) ?_
            refine al_calli (va_runV (As := [.int s1, .int n1]) (rest := []) ⟨hx, hb, hml, hown, hts⟩ (x_X3_open_e l D s.heap.size sk a t i q c d s1 n1 hI (show 1 ≤ s1.toInt ∧ s1.toInt ≤ 5 from by omega) (show 0 ≤ n1.toInt ∧ n1.toInt ≤ 12 from by omega) (show ((i 165) : Int32).toInt ≤ 9 from by omega)) (cwV 2 hts gm_X11_cast_e_X3_open_e_337 rfl rfl rfl (by decide +kernel) ⟨Nat.le_of_ble_eq_true rfl, Nat.le_of_ble_eq_true rfl⟩) (yB_V hN (xZ_k hZ hS hA) (xZ_n hZ hD) hK hP hD (ci := 3) (q0 := 47) rfl rfl) rfl rfl hl.1 rfl (lv_room (Nat.le_of_ble_eq_true rfl)) dX11_cast_49 ⟨Nat.le_of_ble_eq_true rfl, Nat.le_of_ble_eq_true rfl⟩) hS hA hP hD (fun r6 u6 H locs hw6 hP hD hS => ?_)
            obtain ⟨i6, q6, c6, d6⟩ := u6
            have hw6 : (r6.toInt = (i 165).toInt) ∧ xInv i6 c6 ∧ (∀ k, k ∉ ([165] : List Nat) → i6 k = i k) ∧ (∀ k, k ∉ ([162, 163] : List Nat) → c6 k = c k) ∧ ((i6 165).toInt = (i 165).toInt + 1) ∧ ((c6 162) = upd (c 162) (i 165).toNatClampNeg s1) ∧ ((c6 163) = upd (c 163) (i 165).toNatClampNeg n1) := hw6
            obtain ⟨hw6, hI, hei6, hec6, hxp6_0, hxp6_1, hxp6_2⟩ := hw6
            have hxp6_0 : (i6 165).toInt = (i 165).toInt + 1 := hxp6_0
            have hxp6_1 : (c6 162) = upd (c 162) (i 165).toNatClampNeg s1 := hxp6_1
            have hxp6_2 : (c6 163) = upd (c 163) (i 165).toNatClampNeg n1 := hxp6_2
            have hfi : ∀ k, k ∉ ([165] : List Nat) → i6 k = i k := fr_z hfi hei6 (by decide +kernel) (by decide +kernel)
            have hfc : ∀ k, k ∉ ([162, 163] : List Nat) → c6 k = c k := fr_z hfc hec6 (by decide +kernel) (by decide +kernel)
            exact rw_iret (i6, q6, c6, d6) hx hb hr hlocks hS (hK.sub (tys' := []) [] rfl) hP hD dX11_cast_52 ⟨trivial, hI, fr_w hfi (by decide +kernel), fr_w hfc (by decide +kernel), (show (¬ (1 ≤ s1.toInt ∧ s1.toInt ≤ 5 ∧ n1.toInt ≤ 12) ∧ (r6 : Int32).toInt = -1 ∧ ((i6 165) : Int32).toInt = (i 165).toInt) ∨ (1 ≤ s1.toInt ∧ s1.toInt ≤ 5 ∧ n1.toInt ≤ 12 ∧ 10 ≤ (i 165).toInt ∧ (r6 : Int32).toInt = -2 ∧ ((i6 165) : Int32).toInt = (i 165).toInt) ∨ (1 ≤ s1.toInt ∧ s1.toInt ≤ 5 ∧ n1.toInt ≤ 12 ∧ (i 165).toInt ≤ 9 ∧ n1.toInt < 0 ∧ (r6 : Int32).toInt = -3 ∧ ((i6 165) : Int32).toInt = (i 165).toInt) ∨ (1 ≤ s1.toInt ∧ s1.toInt ≤ 5 ∧ n1.toInt ≤ 12 ∧ (i 165).toInt ≤ 9 ∧ 0 ≤ n1.toInt ∧ (r6 : Int32).toInt = (i 165).toInt ∧ ((i6 165) : Int32).toInt = (i 165).toInt + 1) from by omega), (show CUx (c 162) (c 163) (c6 162) (c6 163) s1 n1 (i 165) from Or.inr ⟨by unfold CNew; omega, hxp6_1, hxp6_2⟩)⟩
          · have f5 := mt (ti_le (a := 0) (b := n1.toInt) (by decide +kernel) rfl).mpr c5
            refine lv_aload_n hx hb dX11_cast_37 rfl (lv_at hl 0 rfl) ?_
            refine lv_iconst (v := 5) hx hb dX11_cast_38 (by decide +kernel) ?_
            refine al_calli (va_runV (As := [.int 5]) (rest := []) ⟨hx, hb, hml, hown, hts⟩ (x_X11_answerFinding l D s.heap.size sk a t i q c d 5 hI (show 1 ≤ 5 ∧ 5 ≤ 6 from by decide +kernel)) (cwV 1 hts gm_X11_cast_e_X11_answerFinding_128 rfl rfl rfl (by decide +kernel) ⟨Nat.le_of_ble_eq_true rfl, Nat.le_of_ble_eq_true rfl⟩) (yB_V hN (xZ_k hZ hS hA) (xZ_n hZ hD) hK hP hD (ci := 11) (q0 := 0) rfl rfl) rfl rfl hl.1 rfl (lv_room (Nat.le_of_ble_eq_true rfl)) dX11_cast_39 ⟨Nat.le_of_ble_eq_true rfl, Nat.le_of_ble_eq_true rfl⟩) hS hA hP hD (fun r7 u7 H locs hw7 hP hD hS => ?_)
            obtain ⟨i7, q7, c7, d7⟩ := u7
            have hw7 : r7 = (-3) ∧ xInv i7 c7 ∧ (∀ k, k ∉ ([102] : List Nat) → i7 k = i k) ∧ (∀ k, k ∉ ([101] : List Nat) → c7 k = c k) := hw7
            obtain ⟨hw7, hI, hei7, hec7⟩ := hw7
            have hfi : ∀ k, k ∉ ([102] : List Nat) → i7 k = i k := fr_z hfi hei7 (by decide +kernel) (by decide +kernel)
            have hfc : ∀ k, k ∉ ([101] : List Nat) → c7 k = c k := fr_z hfc hec7 (by decide +kernel) (by decide +kernel)
            have hw7 : r7 = (-3) := hw7
            subst hw7
            have hmd9 : (i7 165).toInt = (i 165).toInt := by rw [show i7 165 = i 165 from hfi 165 (by decide +kernel)]
            exact rw_iret (i7, q7, c7, d7) hx hb hr hlocks hS (hK.sub (tys' := []) [] rfl) hP hD dX11_cast_42 ⟨trivial, hI, fr_w hfi (by decide +kernel), fr_w hfc (by decide +kernel), (show (¬ (1 ≤ s1.toInt ∧ s1.toInt ≤ 5 ∧ n1.toInt ≤ 12) ∧ ((-3) : Int32).toInt = -1 ∧ ((i7 165) : Int32).toInt = (i 165).toInt) ∨ (1 ≤ s1.toInt ∧ s1.toInt ≤ 5 ∧ n1.toInt ≤ 12 ∧ 10 ≤ (i 165).toInt ∧ ((-3) : Int32).toInt = -2 ∧ ((i7 165) : Int32).toInt = (i 165).toInt) ∨ (1 ≤ s1.toInt ∧ s1.toInt ≤ 5 ∧ n1.toInt ≤ 12 ∧ (i 165).toInt ≤ 9 ∧ n1.toInt < 0 ∧ ((-3) : Int32).toInt = -3 ∧ ((i7 165) : Int32).toInt = (i 165).toInt) ∨ (1 ≤ s1.toInt ∧ s1.toInt ≤ 5 ∧ n1.toInt ≤ 12 ∧ (i 165).toInt ≤ 9 ∧ 0 ≤ n1.toInt ∧ ((-3) : Int32).toInt = (i 165).toInt ∧ ((i7 165) : Int32).toInt = (i 165).toInt + 1) from by have h54 : ((-3) : Int32).toInt = -3 := (by decide +kernel); omega), (show CUx (c 162) (c 163) (c7 162) (c7 163) s1 n1 (i 165) from Or.inl ⟨by unfold CNew; omega, hfc 162 (by decide +kernel), hfc 163 (by decide +kernel)⟩)⟩
        · have f4 := mt (ti_lt (a := (i 165).toInt) (b := 10) rfl (by decide +kernel)).mpr c4
          refine lv_bipush (v := (-2)) hx hb dX11_cast_30 (by decide +kernel) ?_
          exact rw_iret (i, q, c, d) hx hb hr hlocks hS (hK.sub (tys' := []) [] rfl) hP hD dX11_cast_32 ⟨trivial, hI, fr_w hfi (by decide +kernel), fr_w hfc (by decide +kernel), (show (¬ (1 ≤ s1.toInt ∧ s1.toInt ≤ 5 ∧ n1.toInt ≤ 12) ∧ ((-2) : Int32).toInt = -1 ∧ ((i 165) : Int32).toInt = (i 165).toInt) ∨ (1 ≤ s1.toInt ∧ s1.toInt ≤ 5 ∧ n1.toInt ≤ 12 ∧ 10 ≤ (i 165).toInt ∧ ((-2) : Int32).toInt = -2 ∧ ((i 165) : Int32).toInt = (i 165).toInt) ∨ (1 ≤ s1.toInt ∧ s1.toInt ≤ 5 ∧ n1.toInt ≤ 12 ∧ (i 165).toInt ≤ 9 ∧ n1.toInt < 0 ∧ ((-2) : Int32).toInt = -3 ∧ ((i 165) : Int32).toInt = (i 165).toInt) ∨ (1 ≤ s1.toInt ∧ s1.toInt ≤ 5 ∧ n1.toInt ≤ 12 ∧ (i 165).toInt ≤ 9 ∧ 0 ≤ n1.toInt ∧ ((-2) : Int32).toInt = (i 165).toInt ∧ ((i 165) : Int32).toInt = (i 165).toInt + 1) from by have h54 : ((-2) : Int32).toInt = -2 := (by decide +kernel); omega), (show CUx (c 162) (c 163) (c 162) (c 163) s1 n1 (i 165) from Or.inl ⟨by unfold CNew; omega, rfl, rfl⟩)⟩
      · have f3 := mt (ti_le (a := n1.toInt) (b := 12) rfl (by decide +kernel)).mpr c3
        refine lv_iconst (v := (-1)) hx hb dX11_cast_16 (by decide +kernel) ?_
        exact rw_iret (i, q, c, d) hx hb hr hlocks hS (hK.sub (tys' := []) [] rfl) hP hD dX11_cast_17 ⟨trivial, hI, fr_w hfi (by decide +kernel), fr_w hfc (by decide +kernel), (show (¬ (1 ≤ s1.toInt ∧ s1.toInt ≤ 5 ∧ n1.toInt ≤ 12) ∧ ((-1) : Int32).toInt = -1 ∧ ((i 165) : Int32).toInt = (i 165).toInt) ∨ (1 ≤ s1.toInt ∧ s1.toInt ≤ 5 ∧ n1.toInt ≤ 12 ∧ 10 ≤ (i 165).toInt ∧ ((-1) : Int32).toInt = -2 ∧ ((i 165) : Int32).toInt = (i 165).toInt) ∨ (1 ≤ s1.toInt ∧ s1.toInt ≤ 5 ∧ n1.toInt ≤ 12 ∧ (i 165).toInt ≤ 9 ∧ n1.toInt < 0 ∧ ((-1) : Int32).toInt = -3 ∧ ((i 165) : Int32).toInt = (i 165).toInt) ∨ (1 ≤ s1.toInt ∧ s1.toInt ≤ 5 ∧ n1.toInt ≤ 12 ∧ (i 165).toInt ≤ 9 ∧ 0 ≤ n1.toInt ∧ ((-1) : Int32).toInt = (i 165).toInt ∧ ((i 165) : Int32).toInt = (i 165).toInt + 1) from by have h54 : ((-1) : Int32).toInt = -1 := (by decide +kernel); omega), (show CUx (c 162) (c 163) (c 162) (c 163) s1 n1 (i 165) from Or.inl ⟨by unfold CNew; omega, rfl, rfl⟩)⟩

set_option maxHeartbeats 4000000 in
set_option maxRecDepth 100000 in
theorem s_X12_cast_e (l : Launch) (D : va_G) (sz : Nat) (o : Nat) (a : Nat → Nat) (t : Nat → ClassId) (i : Nat → Int32) (q : Int64) (c : Nat → Nat → Int32) (d : Nat → Nat → Int64) (s1 : Int32) (n1 : Int32) (hI : mInv i c) : Met l yX12_cast wm_X12_cast ({ frames := 1, cells := 0, slots := 0, locals := 25 }) (va_Pc [.ref o, .int s1, .int n1] (pB D sz (mW o a t i q c d) (mT t))) (va_Qi (fun (r : Int32) (u : MS) => True ∧ mInv u.1 u.2.2.1 ∧ (∀ k, k ∉ ([0, 64] : List Nat) → u.1 k = i k) ∧ (∀ k, k ∉ ([1, 65, 66, 67] : List Nat) → u.2.2.1 k = c k) ∧ ((¬ (1 ≤ s1.toInt ∧ s1.toInt ≤ 5 ∧ n1.toInt ≤ 12) ∧ r.toInt = -1 ∧ (u.1 64).toInt = (i 64).toInt) ∨ (1 ≤ s1.toInt ∧ s1.toInt ≤ 5 ∧ n1.toInt ≤ 12 ∧ 10 ≤ (i 64).toInt ∧ r.toInt = -2 ∧ (u.1 64).toInt = (i 64).toInt) ∨ (1 ≤ s1.toInt ∧ s1.toInt ≤ 5 ∧ n1.toInt ≤ 12 ∧ (i 64).toInt ≤ 9 ∧ n1.toInt < 0 ∧ r.toInt = -3 ∧ (u.1 64).toInt = (i 64).toInt) ∨ (1 ≤ s1.toInt ∧ s1.toInt ≤ 5 ∧ n1.toInt ≤ 12 ∧ (i 64).toInt ≤ 9 ∧ 0 ≤ n1.toInt ∧ r.toInt = (i 64).toInt ∧ (u.1 64).toInt = (i 64).toInt + 1)) ∧ (CUm (c 65) (c 66) (c 67) (u.2.2.1 65) (u.2.2.1 66) (u.2.2.1 67) s1 n1 (i 64))) (oC D (va_A (mW o a t i q c d) sz) (fun u : MS => mW o a t u.1 u.2.1 u.2.2.1 u.2.2.2) (fun _ => [])) (va_A (mW o a t i q c d) sz)) 0 0 (va_A (mW o a t i q c d) sz) := by
  refine Met.ofW (cc := cX12_cast) (maxL := 4) (ret := (some .int)) (by decide +kernel) rfl ?_
  intro p e s m args below meth cd s₁ B hml hv
  obtain ⟨rfl, hsz, hP, hK, hD0⟩ := hv
  have hx := B.exec
  have hb := B.bytes
  have hr := B.returns
  have hts := atoms_spec (ws := wm_X12_cast) B.pre
  have hown : s.vm.findClass RX12 = some m.cls := findClass_of_methodNamed B.named
  have hlocks := B.notSynchronized
  subst hsz
  have hD := hD0.self (sz := s.heap.size)
  generalize hAe : va_A (mW o a t i q c d) s.heap.size = A at hD ⊢
  have hA : ∀ q : Nat, s.heap.size ≤ q → A q := fun q h => by rw [← hAe]; exact Or.inr h
  have hS : va_S A s.heap s.heap [] := va_S.rf
  have hfi : ∀ k, k ∉ ([] : List Nat) → i k = i k := fun _ _ => rfl
  have hfc : ∀ k, k ∉ ([] : List Nat) → c k = c k := fun _ _ => rfl
  have hl := lv_entry ([.ref o, .int s1, .int n1]) (n := 4) (Nat.le_of_ble_eq_true rfl)
  rw [lg_entry_eq]
  generalize (lg_sl ([.ref o, .int s1, .int n1]) ++ List.replicate (4 - (lg_sl ([.ref o, .int s1, .int n1])).length) Slot.unset).toArray = ls at hl ⊢
  have hl : lv_has ls 4 [(0, .ref o), (1, .int s1), (2, .int n1)] := hl
  have rb64_i : 0 ≤ (i 64).toInt ∧ (i 64).toInt ≤ 10 := hI.1 64
  refine lv_iload_n hx hb dX12_cast_0 rfl (lv_at hl 1 rfl) ?_
  refine lv_i2l (v := s1.toInt64) hx hb dX12_cast_1 rfl ?_
  refine lv_lconst (v := 1) hx hb dX12_cast_2 (by decide +kernel) ?_
  refine lv_ldc2 (v := 5) hx hb hown (hts (.constantLong RX12 170 (5)) (List.mem_cons_of_mem _ (List.mem_append_left _ (List.mem_of_getElem? (i := 0) rfl)))) dX12_cast_3 ?_
  have hPc := hP.sub (ws' := []) [] rfl
  have hKc := hK.sub (tys' := []) [] rfl
  refine ro_calli (va_runS (As := [.long s1.toInt64, .long 1, .long 5]) (rest := []) ⟨hx, hb, hml, hown, hts⟩ (c_X12_in l D s.heap.size s1.toInt64 1 5 s1.toInt 1 5 ((Int32.toInt_toInt64 s1).trans rfl) (by decide +kernel) (by decide +kernel)) (va_cwS 3 hts gm_X12_cast_X12_in rfl rfl rfl (by decide +kernel) ⟨Nat.le_of_ble_eq_true rfl, Nat.le_of_ble_eq_true rfl⟩) (pA_S hKc hPc) rfl rfl hl.1 rfl (lv_room (Nat.le_of_ble_eq_true rfl)) dX12_cast_6 ⟨Nat.le_of_ble_eq_true rfl, Nat.le_of_ble_eq_true rfl⟩) hS hA hP (fun r1 u1 H locs hw1 hP hS => ?_)
  have hw1 : r1 = if (1 ≤ s1.toInt ∧ s1.toInt ≤ 5) then 1 else 0 := hw1
  refine lv_if_eq (tgt := 18) hx hb dX12_cast_9 (by decide +kernel) (fun c2 => ?_) (fun c2 => ?_)
  · have f2 := fl_f hw1 c2
    refine lv_iconst (v := (-1)) hx hb dX12_cast_18 (by decide +kernel) ?_
    exact rw_iret (i, q, c, d) hx hb hr hlocks hS (hK.sub (tys' := []) [] rfl) hP hD dX12_cast_19 ⟨trivial, hI, fr_w hfi (by decide +kernel), fr_w hfc (by decide +kernel), (show (¬ (1 ≤ s1.toInt ∧ s1.toInt ≤ 5 ∧ n1.toInt ≤ 12) ∧ ((-1) : Int32).toInt = -1 ∧ ((i 64) : Int32).toInt = (i 64).toInt) ∨ (1 ≤ s1.toInt ∧ s1.toInt ≤ 5 ∧ n1.toInt ≤ 12 ∧ 10 ≤ (i 64).toInt ∧ ((-1) : Int32).toInt = -2 ∧ ((i 64) : Int32).toInt = (i 64).toInt) ∨ (1 ≤ s1.toInt ∧ s1.toInt ≤ 5 ∧ n1.toInt ≤ 12 ∧ (i 64).toInt ≤ 9 ∧ n1.toInt < 0 ∧ ((-1) : Int32).toInt = -3 ∧ ((i 64) : Int32).toInt = (i 64).toInt) ∨ (1 ≤ s1.toInt ∧ s1.toInt ≤ 5 ∧ n1.toInt ≤ 12 ∧ (i 64).toInt ≤ 9 ∧ 0 ≤ n1.toInt ∧ ((-1) : Int32).toInt = (i 64).toInt ∧ ((i 64) : Int32).toInt = (i 64).toInt + 1) from by have h54 : ((-1) : Int32).toInt = -1 := (by decide +kernel); omega), (show CUm (c 65) (c 66) (c 67) (c 65) (c 66) (c 67) s1 n1 (i 64) from Or.inl ⟨by unfold CNew; omega, rfl, rfl, rfl⟩)⟩
  · have f2 := fl_t hw1 c2
    refine lv_iload_n hx hb dX12_cast_12 rfl (lv_at hl 2 rfl) ?_
    refine lv_bipush (v := 12) hx hb dX12_cast_13 (by decide +kernel) ?_
    refine lv_icmp_le (tgt := 20) hx hb dX12_cast_15 (by decide +kernel) (fun c3 => ?_) (fun c3 => ?_)
    · have f3 := (ti_le (a := n1.toInt) (b := 12) rfl (by decide +kernel)).mp c3
      refine lv_aload_n hx hb dX12_cast_20 rfl (lv_at hl 0 rfl) ?_
      refine mget_64 (v := (i 64)) rfl hx hb hts (fun _ h => List.mem_cons_of_mem _ (List.mem_append_right _ h)) hown hK hP (hts (.fieldLink RX12 450 "TalePlayModel" "casts" "I") (List.mem_cons_of_mem _ (List.mem_append_left _ (List.mem_of_getElem? (i := 5) rfl)))) dX12_cast_21 ?_
      refine lv_bipush (v := 10) hx hb dX12_cast_24 (by decide +kernel) ?_
      refine lv_icmp_ne (tgt := 32) hx hb dX12_cast_26 (by decide +kernel) (fun c4 => ?_) (fun c4 => ?_)
      · have f4 := mt (ti_eq (a := (i 64).toInt) (b := 10) rfl (by decide +kernel)).mpr c4
        refine lv_iload_n hx hb dX12_cast_32 rfl (lv_at hl 2 rfl) ?_
        refine lv_if_ge (tgt := 42) hx hb dX12_cast_33 (by decide +kernel) (fun c5 => ?_) (fun c5 => ?_)
        · have f5 := (ti_le (a := 0) (b := n1.toInt) (by decide +kernel) rfl).mp c5
          refine lv_aload_n hx hb dX12_cast_42 rfl (lv_at hl 0 rfl) ?_
          refine mget_65 hx hb hts (fun _ h => List.mem_cons_of_mem _ (List.mem_append_right _ h)) hown hK hP (hts (.fieldLink RX12 139 "TalePlayModel" "castSort" "[I") (List.mem_cons_of_mem _ (List.mem_append_left _ (List.mem_of_getElem? (i := 6) rfl)))) dX12_cast_43 ?_
          refine lv_aload_n hx hb dX12_cast_46 rfl (lv_at hl 0 rfl) ?_
          refine mget_64 (v := (i 64)) rfl hx hb hts (fun _ h => List.mem_cons_of_mem _ (List.mem_append_right _ h)) hown hK hP (hts (.fieldLink RX12 450 "TalePlayModel" "casts" "I") (List.mem_cons_of_mem _ (List.mem_append_left _ (List.mem_of_getElem? (i := 5) rfl)))) dX12_cast_47 ?_
          refine lv_iload_n hx hb dX12_cast_50 rfl (lv_at hl 1 rfl) ?_
          refine mst_65 hx hb hK hP hD hS (vp_in_iff.mpr (by have h9 : (i 64).toInt = (i 64).toInt := rfl; omega)) dX12_cast_51 (fun H locs hP hD hS => ?_)
          have hI := mInv_c hI (k := 65) (j := ((i 64) : Int32).toNatClampNeg) (x := s1) (show 0 ≤ (s1 : Int32).toInt ∧ (s1 : Int32).toInt ≤ 5 from by omega)
          have hfc : ∀ k, k ∉ ([65] : List Nat) → (updA c 65 ((i 64) : Int32).toNatClampNeg s1) k = c k := fr_cz hfc (by decide +kernel) (by decide +kernel)
          refine lv_aload_n hx hb dX12_cast_52 rfl (lv_at hl 0 rfl) ?_
          refine mget_66 hx hb hts (fun _ h => List.mem_cons_of_mem _ (List.mem_append_right _ h)) hown hK hP (hts (.fieldLink RX12 142 "TalePlayModel" "castMany" "[I") (List.mem_cons_of_mem _ (List.mem_append_left _ (List.mem_of_getElem? (i := 7) rfl)))) dX12_cast_53 ?_
          refine lv_aload_n hx hb dX12_cast_56 rfl (lv_at hl 0 rfl) ?_
          refine mget_64 (v := (i 64)) rfl hx hb hts (fun _ h => List.mem_cons_of_mem _ (List.mem_append_right _ h)) hown hK hP (hts (.fieldLink RX12 450 "TalePlayModel" "casts" "I") (List.mem_cons_of_mem _ (List.mem_append_left _ (List.mem_of_getElem? (i := 5) rfl)))) dX12_cast_57 ?_
          refine lv_iload_n hx hb dX12_cast_60 rfl (lv_at hl 2 rfl) ?_
          refine mst_66 hx hb hK hP hD hS (vp_in_iff.mpr (by have h9 : (i 64).toInt = (i 64).toInt := rfl; omega)) dX12_cast_61 (fun H locs hP hD hS => ?_)
          have hI := mInv_c hI (k := 66) (j := ((i 64) : Int32).toNatClampNeg) (x := n1) (show 0 ≤ (n1 : Int32).toInt ∧ (n1 : Int32).toInt ≤ 12 from by omega)
          have hfc : ∀ k, k ∉ ([65, 66] : List Nat) → (updA (updA c 65 ((i 64) : Int32).toNatClampNeg s1) 66 ((i 64) : Int32).toNatClampNeg n1) k = c k := fr_cz hfc (by decide +kernel) (by decide +kernel)
          refine lv_iconst (v := 0) hx hb dX12_cast_62 (by decide +kernel) ?_
          refine lv_istore_n (lv' := [(3, .int 0), (0, .ref o), (1, .int s1), (2, .int n1)]) hx hb dX12_cast_63 rfl hl (by decide +kernel) rfl (fun ls hl => ?_)
          have lp6 : ∀ (fu : Nat) (i6 : Nat → Int32) (q6 : Int64) (c6 : Nat → Nat → Int32) (d6 : Nat → Nat → Int64) (y6_3 : Int32), mInv i6 c6 → (∀ k, k ∉ ([] : List Nat) → i6 k = i k) → (∀ k, k ∉ ([65, 66, 67] : List Nat) → c6 k = c k) → (0 ≤ y6_3.toInt ∧ y6_3.toInt ≤ 12) → (((i6 64) : Int32).toInt = (i 64).toInt) → ((c6 65) = upd (c 65) (i 64).toNatClampNeg s1) → ((c6 66) = upd (c 66) (i 64).toNatClampNeg n1) → (CRo (c 67) (c6 67) (i 64) y6_3.toInt) → (12 - y6_3.toInt).toNat < fu → ∀ (H : Heap) (locs : List Loc) (ls : Array Slot), va_P D vwCl (mW o a t i6 q6 c6 d6) H → va_D A (mW o a t i6 q6 c6 d6) → va_S A s.heap H locs → lv_has ls 4 [(3, .int y6_3), (0, .ref o), (1, .int s1), (2, .int n1)] → W p l e (headSpec wm_X12_cast ({ frames := 1, cells := 0, slots := 0, locals := 25 })).room s m ([.ref o, .int s1, .int n1] : List Value).toArray below meth cd H locs 0 0 (MQ below (va_Qi (fun (r : Int32) (u : MS) => True ∧ mInv u.1 u.2.2.1 ∧ (∀ k, k ∉ ([0, 64] : List Nat) → u.1 k = i k) ∧ (∀ k, k ∉ ([1, 65, 66, 67] : List Nat) → u.2.2.1 k = c k) ∧ ((¬ (1 ≤ s1.toInt ∧ s1.toInt ≤ 5 ∧ n1.toInt ≤ 12) ∧ r.toInt = -1 ∧ (u.1 64).toInt = (i 64).toInt) ∨ (1 ≤ s1.toInt ∧ s1.toInt ≤ 5 ∧ n1.toInt ≤ 12 ∧ 10 ≤ (i 64).toInt ∧ r.toInt = -2 ∧ (u.1 64).toInt = (i 64).toInt) ∨ (1 ≤ s1.toInt ∧ s1.toInt ≤ 5 ∧ n1.toInt ≤ 12 ∧ (i 64).toInt ≤ 9 ∧ n1.toInt < 0 ∧ r.toInt = -3 ∧ (u.1 64).toInt = (i 64).toInt) ∨ (1 ≤ s1.toInt ∧ s1.toInt ≤ 5 ∧ n1.toInt ≤ 12 ∧ (i 64).toInt ≤ 9 ∧ 0 ≤ n1.toInt ∧ r.toInt = (i 64).toInt ∧ (u.1 64).toInt = (i 64).toInt + 1)) ∧ (CUm (c 65) (c 66) (c 67) (u.2.2.1 65) (u.2.2.1 66) (u.2.2.1 67) s1 n1 (i 64))) (oC D A (fun u : MS => mW o a t u.1 u.2.1 u.2.2.1 u.2.2.2) (fun _ => [])) A) ([.ref o, .int s1, .int n1] : List Value).toArray s 0 0 A) (F0 m 64 ls []) := by
            intro fu
            induction fu with
            | zero => intro i6 q6 c6 d6 y6_3 hI hfi hfc hy6_3 hz6_0 hz6_1 hz6_2 hz6_3 hm; exact absurd hm (Nat.not_lt_zero _)
            | succ fu ih =>
              intro i6 q6 c6 d6 y6_3 hI hfi hfc hy6_3 hz6_0 hz6_1 hz6_2 hz6_3 hm H locs ls hP hD hS hl
              have ih6 := ih
              refine lv_iload_n hx hb dX12_cast_64 rfl (lv_at hl 0 rfl) ?_
              refine lv_bipush (v := 12) hx hb dX12_cast_65 (by decide +kernel) ?_
              refine lv_icmp_ge (tgt := 92) hx hb dX12_cast_67 (by decide +kernel) (fun c7 => ?_) (fun c7 => ?_)
              · have f7 := (ti_le (a := 12) (b := y6_3.toInt) (by decide +kernel) rfl).mp c7
                refine lv_aload_n hx hb dX12_cast_92 rfl (lv_at hl 1 rfl) ?_
                refine lv_dup hx hb dX12_cast_93 rfl ?_
                refine mget_64 (v := (i6 64)) rfl hx hb hts (fun _ h => List.mem_cons_of_mem _ (List.mem_append_right _ h)) hown hK hP (hts (.fieldLink RX12 450 "TalePlayModel" "casts" "I") (List.mem_cons_of_mem _ (List.mem_append_left _ (List.mem_of_getElem? (i := 5) rfl)))) dX12_cast_94 ?_
                have rb64_i6 : 0 ≤ (i6 64).toInt ∧ (i6 64).toInt ≤ 10 := hI.1 64
                have re64_i6 : (i6 64).toInt = (i 64).toInt := congrArg Int32.toInt (hfi 64 (by decide +kernel))
                refine lv_iconst (v := 1) hx hb dX12_cast_97 (by decide +kernel) ?_
                refine lv_iadd hx hb dX12_cast_98 ?_
                refine lv_topi (fun x8 ex8 => ?_)
                have tx8 := ti_add (a := (i6 64).toInt) (b := 1) ex8 rfl (by decide +kernel) (by omega) (by omega)
                refine mput_64 hx hb hts (fun _ h => List.mem_cons_of_mem _ (List.mem_append_right _ h)) hown hK hP hD hS (hts (.fieldLink RX12 450 "TalePlayModel" "casts" "I") (List.mem_cons_of_mem _ (List.mem_append_left _ (List.mem_of_getElem? (i := 5) rfl)))) rfl rfl dX12_cast_99 (fun H locs hP hD hS => ?_)
                have hI := mInv_i hI (k := 64) (v := x8) (show 0 ≤ (x8 : Int32).toInt ∧ (x8 : Int32).toInt ≤ 10 from by have h9 : x8.toInt = ((i6 64).toInt + 1) := tx8; omega)
                have hfi : ∀ k, k ∉ ([64] : List Nat) → (upd i6 64 x8) k = i k := fr_iz hfi (by decide +kernel) (by decide +kernel)
                refine lv_aload_n hx hb dX12_cast_102 rfl (lv_at hl 1 rfl) ?_
                refine mget_64 (i := (upd i6 64 x8)) (v := x8) rfl hx hb hts (fun _ h => List.mem_cons_of_mem _ (List.mem_append_right _ h)) hown hK hP (hts (.fieldLink RX12 450 "TalePlayModel" "casts" "I") (List.mem_cons_of_mem _ (List.mem_append_left _ (List.mem_of_getElem? (i := 5) rfl)))) dX12_cast_103 ?_
                refine lv_iconst (v := 1) hx hb dX12_cast_106 (by decide +kernel) ?_
                refine lv_isub hx hb dX12_cast_107 ?_
                refine lv_topi (fun x9 ex9 => ?_)
                have tx9 := ti_sub (a := ((i6 64).toInt + 1)) (b := 1) ex9 tx8 (by decide +kernel) (by omega) (by omega)
                exact rw_iret ((upd i6 64 x8), q6, c6, d6) hx hb hr hlocks hS (hK.sub (tys' := []) [] rfl) hP hD dX12_cast_108 ⟨trivial, hI, fr_w hfi (by decide +kernel), fr_w hfc (by decide +kernel), (show (¬ (1 ≤ s1.toInt ∧ s1.toInt ≤ 5 ∧ n1.toInt ≤ 12) ∧ (x9 : Int32).toInt = -1 ∧ (x8 : Int32).toInt = (i 64).toInt) ∨ (1 ≤ s1.toInt ∧ s1.toInt ≤ 5 ∧ n1.toInt ≤ 12 ∧ 10 ≤ (i 64).toInt ∧ (x9 : Int32).toInt = -2 ∧ (x8 : Int32).toInt = (i 64).toInt) ∨ (1 ≤ s1.toInt ∧ s1.toInt ≤ 5 ∧ n1.toInt ≤ 12 ∧ (i 64).toInt ≤ 9 ∧ n1.toInt < 0 ∧ (x9 : Int32).toInt = -3 ∧ (x8 : Int32).toInt = (i 64).toInt) ∨ (1 ≤ s1.toInt ∧ s1.toInt ≤ 5 ∧ n1.toInt ≤ 12 ∧ (i 64).toInt ≤ 9 ∧ 0 ≤ n1.toInt ∧ (x9 : Int32).toInt = (i 64).toInt ∧ (x8 : Int32).toInt = (i 64).toInt + 1) from by have h50 : x8.toInt = ((i6 64).toInt + 1) := tx8; have h51 : x8.toInt = ((i6 64).toInt + 1) := tx8; have h52 : x8.toInt = ((i6 64).toInt + 1) := tx8; have h53 : x8.toInt = ((i6 64).toInt + 1) := tx8; have h54 : x9.toInt = (((i6 64).toInt + 1) - 1) := tx9; omega), (show CUm (c 65) (c 66) (c 67) (c6 65) (c6 66) (c6 67) s1 n1 (i 64) from Or.inr ⟨by unfold CNew; omega, hz6_1, hz6_2, by have h9 := hz6_3; rw [show y6_3.toInt = 12 by omega] at h9; exact h9⟩)⟩
              · have f7 := mt (ti_le (a := 12) (b := y6_3.toInt) (by decide +kernel) rfl).mpr c7
                refine lv_aload_n hx hb dX12_cast_70 rfl (lv_at hl 1 rfl) ?_
                refine mget_67 hx hb hts (fun _ h => List.mem_cons_of_mem _ (List.mem_append_right _ h)) hown hK hP (hts (.fieldLink RX12 145 "TalePlayModel" "roles" "[I") (List.mem_cons_of_mem _ (List.mem_append_left _ (List.mem_of_getElem? (i := 8) rfl)))) dX12_cast_71 ?_
                refine lv_bipush (v := 12) hx hb dX12_cast_74 (by decide +kernel) ?_
                refine lv_aload_n hx hb dX12_cast_76 rfl (lv_at hl 1 rfl) ?_
                refine mget_64 (v := (i6 64)) rfl hx hb hts (fun _ h => List.mem_cons_of_mem _ (List.mem_append_right _ h)) hown hK hP (hts (.fieldLink RX12 450 "TalePlayModel" "casts" "I") (List.mem_cons_of_mem _ (List.mem_append_left _ (List.mem_of_getElem? (i := 5) rfl)))) dX12_cast_77 ?_
                have rb64_i6 : 0 ≤ (i6 64).toInt ∧ (i6 64).toInt ≤ 10 := hI.1 64
                have re64_i6 : (i6 64).toInt = (i 64).toInt := congrArg Int32.toInt (hfi 64 (by decide +kernel))
                refine lv_imul hx hb dX12_cast_80 ?_
                refine lv_topi (fun x10 ex10 => ?_)
                have tx10 := ti_mul (a := 12) (b := (i6 64).toInt) ex10 (by decide +kernel) rfl (by omega) (by omega)
                refine lv_iload_n hx hb dX12_cast_81 rfl (lv_at hl 0 rfl) ?_
                refine lv_iadd hx hb dX12_cast_82 ?_
                refine lv_topi (fun x11 ex11 => ?_)
                have tx11 := ti_add (a := (12 * (i6 64).toInt)) (b := y6_3.toInt) ex11 tx10 rfl (by omega) (by omega)
                refine lv_bipush (v := (-9)) hx hb dX12_cast_83 (by decide +kernel) ?_
                refine mst_67 hx hb hK hP hD hS (vp_in_iff.mpr (by have h9 : x11.toInt = ((12 * (i6 64).toInt) + y6_3.toInt) := tx11; omega)) dX12_cast_85 (fun H locs hP hD hS => ?_)
                have hI := mInv_c hI (k := 67) (j := (x11 : Int32).toNatClampNeg) (x := (-9)) (show ((-9) : Int32).toInt = -9 ∨ (0 ≤ ((-9) : Int32).toInt ∧ ((-9) : Int32).toInt ≤ 29) from by decide +kernel)
                have hfc := fr_c hfc (k := 67) (j := (x11 : Int32).toNatClampNeg) (x := (-9)) (by decide +kernel)
                obtain ⟨x12, ex12⟩ : ∃ y : Int32, y = y6_3 + 1 := ⟨_, rfl⟩
                have tx12 := ti_add (a := y6_3.toInt) (b := 1) ex12 rfl (by decide +kernel) (by omega) (by omega)
                refine lv_iinc (v := x12) (lv' := [(3, .int x12), (0, .ref o), (1, .int s1), (2, .int n1)]) hx hb dX12_cast_86 hl (k := 0) rfl (by rw [ex12]; rfl) (by decide +kernel) rfl (fun ls hl => ?_)
                refine lv_goto (tgt := 64) hx hb dX12_cast_89 (by decide +kernel) ?_
                exact ih6 i6 q6 (updA c6 67 (x11 : Int32).toNatClampNeg (-9)) d6 x12 hI (fr_w hfi (by decide +kernel)) (fr_w hfc (by decide +kernel)) (show 0 ≤ x12.toInt ∧ x12.toInt ≤ 12 from by have h50 : x12.toInt = (y6_3.toInt + 1) := tx12; omega) (show ((i6 64) : Int32).toInt = (i 64).toInt from by have h50 : x12.toInt = (y6_3.toInt + 1) := tx12; omega) (show ((updA c6 67 (x11 : Int32).toNatClampNeg (-9)) 65) = upd (c 65) (i 64).toNatClampNeg s1 from hz6_1) (show ((updA c6 67 (x11 : Int32).toNatClampNeg (-9)) 66) = upd (c 66) (i 64).toNatClampNeg n1 from hz6_2) (show CRo (c 67) ((updA c6 67 (x11 : Int32).toNatClampNeg (-9)) 67) (i 64) x12.toInt from CRo_s hz6_3 (by omega) (by omega) tx12 (by have h9 := tx11; omega) rfl) (by have h50 : x12.toInt = (y6_3.toInt + 1) := tx12; omega) _ _ _ hP hD hS (lv_sub hl [0, 1, 2, 3] rfl)
          exact lp6 _ i q (updA (updA c 65 ((i 64) : Int32).toNatClampNeg s1) 66 ((i 64) : Int32).toNatClampNeg n1) d (0 : Int32) hI (fr_w hfi (by decide +kernel)) (fr_w hfc (by decide +kernel)) (show 0 ≤ (0 : Int32).toInt ∧ (0 : Int32).toInt ≤ 12 from by decide +kernel) (show ((i 64) : Int32).toInt = (i 64).toInt from by have h50 : (0 : Int32).toInt = 0 := (by decide +kernel); omega) (show ((updA (updA c 65 ((i 64) : Int32).toNatClampNeg s1) 66 ((i 64) : Int32).toNatClampNeg n1) 65) = upd (c 65) (i 64).toNatClampNeg s1 from rfl) (show ((updA (updA c 65 ((i 64) : Int32).toNatClampNeg s1) 66 ((i 64) : Int32).toNatClampNeg n1) 66) = upd (c 66) (i 64).toNatClampNeg n1 from rfl) (show CRo (c 67) ((updA (updA c 65 ((i 64) : Int32).toNatClampNeg s1) 66 ((i 64) : Int32).toNatClampNeg n1) 67) (i 64) (0 : Int32).toInt from fun j => by rw [if_neg (by have h9 : (0 : Int32).toInt = 0 := (by decide +kernel); omega)]; rfl) (Nat.lt_succ_self _) _ _ _ hP hD hS (lv_sub hl [0, 1, 2, 3] rfl)
        · have f5 := mt (ti_le (a := 0) (b := n1.toInt) (by decide +kernel) rfl).mpr c5
          refine lv_aload_n hx hb dX12_cast_36 rfl (lv_at hl 0 rfl) ?_
          refine lv_iconst (v := 5) hx hb dX12_cast_37 (by decide +kernel) ?_
          refine al_calli (va_runV (As := [.int 5]) (rest := []) ⟨hx, hb, hml, hown, hts⟩ (s_X12_meets l D H.size o a t i q c d 5 hI (show 1 ≤ 5 ∧ 5 ≤ 6 from by decide +kernel)) (cwV 1 hts gm_X12_cast_X12_meets rfl rfl rfl (by decide +kernel) ⟨Nat.le_of_ble_eq_true rfl, Nat.le_of_ble_eq_true rfl⟩) (pB_V hK hP hD (ci := 12) (q0 := 0) rfl rfl) rfl rfl hl.1 rfl (lv_room (Nat.le_of_ble_eq_true rfl)) dX12_cast_38 ⟨Nat.le_of_ble_eq_true rfl, Nat.le_of_ble_eq_true rfl⟩) hS hA hP hD (fun r13 u13 H locs hw13 hP hD hS => ?_)
          obtain ⟨i13, q13, c13, d13⟩ := u13
          have hw13 : r13 = (-3) ∧ mInv i13 c13 ∧ (∀ k, k ∉ ([0] : List Nat) → i13 k = i k) ∧ (∀ k, k ∉ ([1] : List Nat) → c13 k = c k) := hw13
          obtain ⟨hw13, hI, hei13, hec13⟩ := hw13
          have hfi : ∀ k, k ∉ ([0] : List Nat) → i13 k = i k := fr_z hfi hei13 (by decide +kernel) (by decide +kernel)
          have hfc : ∀ k, k ∉ ([1] : List Nat) → c13 k = c k := fr_z hfc hec13 (by decide +kernel) (by decide +kernel)
          have hP : va_P D vwCl (mW o a t i13 q13 c13 d13) H := hP
          have hD : va_D A (mW o a t i13 q13 c13 d13) := hD
          have hw13 : r13 = (-3) := hw13
          subst hw13
          have hmd9 : (i13 64).toInt = (i 64).toInt := by rw [show i13 64 = i 64 from hfi 64 (by decide +kernel)]
          exact rw_iret (i13, q13, c13, d13) hx hb hr hlocks hS (hK.sub (tys' := []) [] rfl) hP hD dX12_cast_41 ⟨trivial, hI, fr_w hfi (by decide +kernel), fr_w hfc (by decide +kernel), (show (¬ (1 ≤ s1.toInt ∧ s1.toInt ≤ 5 ∧ n1.toInt ≤ 12) ∧ ((-3) : Int32).toInt = -1 ∧ ((i13 64) : Int32).toInt = (i 64).toInt) ∨ (1 ≤ s1.toInt ∧ s1.toInt ≤ 5 ∧ n1.toInt ≤ 12 ∧ 10 ≤ (i 64).toInt ∧ ((-3) : Int32).toInt = -2 ∧ ((i13 64) : Int32).toInt = (i 64).toInt) ∨ (1 ≤ s1.toInt ∧ s1.toInt ≤ 5 ∧ n1.toInt ≤ 12 ∧ (i 64).toInt ≤ 9 ∧ n1.toInt < 0 ∧ ((-3) : Int32).toInt = -3 ∧ ((i13 64) : Int32).toInt = (i 64).toInt) ∨ (1 ≤ s1.toInt ∧ s1.toInt ≤ 5 ∧ n1.toInt ≤ 12 ∧ (i 64).toInt ≤ 9 ∧ 0 ≤ n1.toInt ∧ ((-3) : Int32).toInt = (i 64).toInt ∧ ((i13 64) : Int32).toInt = (i 64).toInt + 1) from by have h54 : ((-3) : Int32).toInt = -3 := (by decide +kernel); omega), (show CUm (c 65) (c 66) (c 67) (c13 65) (c13 66) (c13 67) s1 n1 (i 64) from Or.inl ⟨by unfold CNew; omega, hfc 65 (by decide +kernel), hfc 66 (by decide +kernel), hfc 67 (by decide +kernel)⟩)⟩
      · have f4 := (ti_eq (a := (i 64).toInt) (b := 10) rfl (by decide +kernel)).mp c4
        refine lv_bipush (v := (-2)) hx hb dX12_cast_29 (by decide +kernel) ?_
        exact rw_iret (i, q, c, d) hx hb hr hlocks hS (hK.sub (tys' := []) [] rfl) hP hD dX12_cast_31 ⟨trivial, hI, fr_w hfi (by decide +kernel), fr_w hfc (by decide +kernel), (show (¬ (1 ≤ s1.toInt ∧ s1.toInt ≤ 5 ∧ n1.toInt ≤ 12) ∧ ((-2) : Int32).toInt = -1 ∧ ((i 64) : Int32).toInt = (i 64).toInt) ∨ (1 ≤ s1.toInt ∧ s1.toInt ≤ 5 ∧ n1.toInt ≤ 12 ∧ 10 ≤ (i 64).toInt ∧ ((-2) : Int32).toInt = -2 ∧ ((i 64) : Int32).toInt = (i 64).toInt) ∨ (1 ≤ s1.toInt ∧ s1.toInt ≤ 5 ∧ n1.toInt ≤ 12 ∧ (i 64).toInt ≤ 9 ∧ n1.toInt < 0 ∧ ((-2) : Int32).toInt = -3 ∧ ((i 64) : Int32).toInt = (i 64).toInt) ∨ (1 ≤ s1.toInt ∧ s1.toInt ≤ 5 ∧ n1.toInt ≤ 12 ∧ (i 64).toInt ≤ 9 ∧ 0 ≤ n1.toInt ∧ ((-2) : Int32).toInt = (i 64).toInt ∧ ((i 64) : Int32).toInt = (i 64).toInt + 1) from by have h54 : ((-2) : Int32).toInt = -2 := (by decide +kernel); omega), (show CUm (c 65) (c 66) (c 67) (c 65) (c 66) (c 67) s1 n1 (i 64) from Or.inl ⟨by unfold CNew; omega, rfl, rfl, rfl⟩)⟩
    · have f3 := mt (ti_le (a := n1.toInt) (b := 12) rfl (by decide +kernel)).mpr c3
      refine lv_iconst (v := (-1)) hx hb dX12_cast_18 (by decide +kernel) ?_
      exact rw_iret (i, q, c, d) hx hb hr hlocks hS (hK.sub (tys' := []) [] rfl) hP hD dX12_cast_19 ⟨trivial, hI, fr_w hfi (by decide +kernel), fr_w hfc (by decide +kernel), (show (¬ (1 ≤ s1.toInt ∧ s1.toInt ≤ 5 ∧ n1.toInt ≤ 12) ∧ ((-1) : Int32).toInt = -1 ∧ ((i 64) : Int32).toInt = (i 64).toInt) ∨ (1 ≤ s1.toInt ∧ s1.toInt ≤ 5 ∧ n1.toInt ≤ 12 ∧ 10 ≤ (i 64).toInt ∧ ((-1) : Int32).toInt = -2 ∧ ((i 64) : Int32).toInt = (i 64).toInt) ∨ (1 ≤ s1.toInt ∧ s1.toInt ≤ 5 ∧ n1.toInt ≤ 12 ∧ (i 64).toInt ≤ 9 ∧ n1.toInt < 0 ∧ ((-1) : Int32).toInt = -3 ∧ ((i 64) : Int32).toInt = (i 64).toInt) ∨ (1 ≤ s1.toInt ∧ s1.toInt ≤ 5 ∧ n1.toInt ≤ 12 ∧ (i 64).toInt ≤ 9 ∧ 0 ≤ n1.toInt ∧ ((-1) : Int32).toInt = (i 64).toInt ∧ ((i 64) : Int32).toInt = (i 64).toInt + 1) from by have h54 : ((-1) : Int32).toInt = -1 := (by decide +kernel); omega), (show CUm (c 65) (c 66) (c 67) (c 65) (c 66) (c 67) s1 n1 (i 64) from Or.inl ⟨by unfold CNew; omega, rfl, rfl, rfl⟩)⟩

def wm_X10_changeStandard_e : List Cond := .code yX10_changeStandard cX10_changeStandard 5 (some .int) :: (([.fieldLink RX10 18 "TalePlay$World" "standards" "[I"] : List Cond) ++ wsX100)
set_option maxHeartbeats 4000000 in
set_option maxRecDepth 100000 in
theorem x_X10_changeStandard_e (l : Launch) (D : va_G) (sz : Nat) (sk : Value) (a : Nat → Nat) (t : Nat → ClassId) (i : Nat → Int32) (q : Int64) (c : Nat → Nat → Int32) (d : Nat → Nat → Int64) (k1 : Int32) (f : Int32) (v1 : Int32) (hI : xInv i c) (hk1 : 0 ≤ k1.toInt ∧ k1.toInt ≤ 23) (hf : 0 ≤ f.toInt ∧ f.toInt ≤ 5) (hv : v1.toInt = -9 ∨ (0 ≤ v1.toInt ∧ v1.toInt ≤ 1)) : Met l yX10_changeStandard wm_X10_changeStandard_e ({ frames := 0, cells := 0, slots := 0, locals := 0 }) (va_Pc [.ref (a 104), .int k1, .int f, .int v1] (yB (a 186) D sz (xwT sk a t i q c d) (xtT t))) (va_Qi (fun (r : Int32) (u : MS) => True ∧ xInv u.1 u.2.2.1 ∧ (∀ k, k ∉ ([] : List Nat) → u.1 k = i k) ∧ (∀ k, k ∉ ([107] : List Nat) → u.2.2.1 k = c k) ∧ (r = (c 107 (k1.toInt * 6 + f.toInt).toNat)) ∧ ((u.2.2.1 107) = upd (c 107) (k1.toInt * 6 + f.toInt).toNat v1)) (oC D (va_A (xwT sk a t i q c d) sz) (fun u : MS => xwT sk a t u.1 u.2.1 u.2.2.1 u.2.2.2) (fun _ => [])) (va_A (xwT sk a t i q c d) sz)) 0 0 (va_A (xwT sk a t i q c d) sz) := by
  refine Met.ofW (cc := cX10_changeStandard) (maxL := 5) (ret := (some .int)) (by decide +kernel) rfl ?_
  intro p e s m args below meth cd s₁ B hml hv
  obtain ⟨rfl, ⟨hsz, hP, hK, hD0⟩, hN, hZ, hBW⟩ := hv
  have hx := B.exec
  have hb := B.bytes
  have hr := B.returns
  have hts := atoms_spec (ws := wm_X10_changeStandard_e) B.pre
  have hown : s.vm.findClass RX10 = some m.cls := findClass_of_methodNamed B.named
  have hlocks := B.notSynchronized
  subst hsz
  have hD := hD0.self (sz := s.heap.size)
  have hZ := xZ_A hZ hP hBW
  generalize hAe : va_A (xwT sk a t i q c d) s.heap.size = A at hD hZ ⊢
  have hA : ∀ q : Nat, s.heap.size ≤ q → A q := fun q h => by rw [← hAe]; exact Or.inr h
  have hS : va_S A s.heap s.heap [] := va_S.rf
  have hfi : ∀ k, k ∉ ([] : List Nat) → i k = i k := fun _ _ => rfl
  have hfc : ∀ k, k ∉ ([] : List Nat) → c k = c k := fun _ _ => rfl
  have hl := lv_entry ([.ref (a 104), .int k1, .int f, .int v1]) (n := 5) (Nat.le_of_ble_eq_true rfl)
  rw [lg_entry_eq]
  generalize (lg_sl ([.ref (a 104), .int k1, .int f, .int v1]) ++ List.replicate (5 - (lg_sl ([.ref (a 104), .int k1, .int f, .int v1])).length) Slot.unset).toArray = ls at hl ⊢
  have hl : lv_has ls 5 [(0, .ref (a 104)), (1, .int k1), (2, .int f), (3, .int v1)] := hl
  refine lv_aload_n hx hb dX10_changeStandard_0 rfl (lv_at hl 0 rfl) ?_
  refine xgT_W_standards hx hb hts (fun _ h => List.mem_cons_of_mem _ (List.mem_append_right _ h)) hown hK hP (hts (.fieldLink RX10 18 "TalePlay$World" "standards" "[I") (List.mem_cons_of_mem _ (List.mem_append_left _ (List.mem_of_getElem? (i := 0) rfl)))) dX10_changeStandard_1 ?_
  refine lv_iload_n hx hb dX10_changeStandard_4 rfl (lv_at hl 1 rfl) ?_
  refine lv_bipush (v := 6) hx hb dX10_changeStandard_5 (by decide +kernel) ?_
  refine lv_imul hx hb dX10_changeStandard_7 ?_
  refine lv_topi (fun x1 ex1 => ?_)
  have tx1 := ti_mul (a := k1.toInt) (b := 6) ex1 rfl (by decide +kernel) (by omega) (by omega)
  refine lv_iload_n hx hb dX10_changeStandard_8 rfl (lv_at hl 2 rfl) ?_
  refine lv_iadd hx hb dX10_changeStandard_9 ?_
  refine lv_topi (fun x2 ex2 => ?_)
  have tx2 := ti_add (a := (k1.toInt * 6)) (b := f.toInt) ex2 tx1 rfl (by omega) (by omega)
  refine xlT_107 hx hb hK hP (vp_in_iff.mpr (by have h9 : x2.toInt = ((k1.toInt * 6) + f.toInt) := tx2; omega)) dX10_changeStandard_10 (fun x3 ex3 => ?_)
  have rx3 : x3.toInt = -9 ∨ (0 ≤ x3.toInt ∧ x3.toInt ≤ 1) := by rw [ex3]; exact hI.2 107 _
  refine lv_istore (lv' := [(4, .int x3), (0, .ref (a 104)), (1, .int k1), (2, .int f), (3, .int v1)]) hx hb dX10_changeStandard_11 hl (by decide +kernel) rfl (fun ls hl => ?_)
  refine lv_aload_n hx hb dX10_changeStandard_13 rfl (lv_at hl 1 rfl) ?_
  refine xgT_W_standards hx hb hts (fun _ h => List.mem_cons_of_mem _ (List.mem_append_right _ h)) hown hK hP (hts (.fieldLink RX10 18 "TalePlay$World" "standards" "[I") (List.mem_cons_of_mem _ (List.mem_append_left _ (List.mem_of_getElem? (i := 0) rfl)))) dX10_changeStandard_14 ?_
  refine lv_iload_n hx hb dX10_changeStandard_17 rfl (lv_at hl 2 rfl) ?_
  refine lv_bipush (v := 6) hx hb dX10_changeStandard_18 (by decide +kernel) ?_
  refine lv_imul hx hb dX10_changeStandard_20 ?_
  refine lv_topi (fun x4 ex4 => ?_)
  have tx4 := ti_mul (a := k1.toInt) (b := 6) ex4 rfl (by decide +kernel) (by omega) (by omega)
  refine lv_iload_n hx hb dX10_changeStandard_21 rfl (lv_at hl 3 rfl) ?_
  refine lv_iadd hx hb dX10_changeStandard_22 ?_
  refine lv_topi (fun x5 ex5 => ?_)
  have tx5 := ti_add (a := (k1.toInt * 6)) (b := f.toInt) ex5 tx4 rfl (by omega) (by omega)
  refine lv_iload_n hx hb dX10_changeStandard_23 rfl (lv_at hl 4 rfl) ?_
  refine xsT_107 hx hb hK hP hD hS (vp_in_iff.mpr (by have h9 : x5.toInt = ((k1.toInt * 6) + f.toInt) := tx5; omega)) dX10_changeStandard_24 (fun H locs hP hD hS => ?_)
  have hI := xInv_c hI (k := 107) (j := (x5 : Int32).toNatClampNeg) (x := v1) (show (v1 : Int32).toInt = -9 ∨ (0 ≤ (v1 : Int32).toInt ∧ (v1 : Int32).toInt ≤ 1) from by omega)
  have hfc : ∀ k, k ∉ ([107] : List Nat) → (updA c 107 (x5 : Int32).toNatClampNeg v1) k = c k := fr_cz hfc (by decide +kernel) (by decide +kernel)
  refine lv_iload hx hb dX10_changeStandard_25 (lv_at hl 0 rfl) ?_
  exact rw_iret (i, q, (updA c 107 (x5 : Int32).toNatClampNeg v1), d) hx hb hr hlocks hS (hK.sub (tys' := []) [] rfl) hP hD dX10_changeStandard_27 ⟨trivial, hI, fr_w hfi (by decide +kernel), fr_w hfc (by decide +kernel), (show (x3 : Int32) = (c 107 (k1.toInt * 6 + f.toInt).toNat) from (ix_n (f := c 107) (s := x2) (show (x2 : Int32).toInt = k1.toInt * 6 + f.toInt from by omega) ex3).symm), (show ((updA c 107 (x5 : Int32).toNatClampNeg v1) 107) = upd (c 107) (k1.toInt * 6 + f.toInt).toNat v1 from by show upd (c 107) (x5 : Int32).toNatClampNeg v1 = _; rw [cl_t (show (x5 : Int32).toInt = (k1.toInt * 6 + f.toInt) from by omega)])⟩

def wm_X11_standard_e : List Cond := .code yX11_standard cX11_standard 4 (some .int) :: ((([.fieldLink RX11 10 "TalePlay" "world" "LTalePlay$World;", .methodLink RX11 80 yX10_hasKind, .instanceMethod yX10_hasKind, .selects RX10 yX10_hasKind yX10_hasKind, .initialized RX10, .code yX10_hasKind cX10_hasKind 2 (some .boolean), .fieldLink RX10 33 "TalePlay$World" "kinds" "I", .methodLink RX11 91 yX11_isBelow, .static yX11_isBelow, .initialized RX11, .code yX11_isBelow cX11_isBelow 2 (some .boolean), .fieldLink RX11 46 "TalePlay" "tale" "LTalePlay$Tale;", .methodLink RX11 95 yX9_end, .instanceMethod yX9_end, .selects RX9 yX9_end yX9_end, .initialized RX9] : List Cond) ++ ([.code yX9_end cX9_end 1 none, .fieldLink RX9 72 "TalePlay$Tale" "there" "Z", .fieldLink RX9 77 "TalePlay$Tale" "turns" "I", .methodLink RX11 98 yX10_changeStandard, .instanceMethod yX10_changeStandard, .selects RX10 yX10_changeStandard yX10_changeStandard, .code yX10_changeStandard cX10_changeStandard 5 (some .int), .fieldLink RX10 18 "TalePlay$World" "standards" "[I"] : List Cond)) ++ wsX110 ++ wsX100 ++ wsX90)
set_option maxRecDepth 20000 in
theorem gm_X11_standard_e_X10_hasKind_80 : GoodIn wm_X11_standard_e (wsV RX11 80 RX10 yX10_hasKind wm_X10_hasKind) := goodIn_w (List.forall_mem_append.mpr ⟨List.forall_mem_cons.mpr ⟨List.mem_cons_of_mem _ (List.mem_append_left _ (List.mem_append_left _ (List.mem_append_left _ (List.mem_append_left _ (List.mem_of_getElem? (i := 1) rfl))))), List.forall_mem_cons.mpr ⟨List.mem_cons_of_mem _ (List.mem_append_left _ (List.mem_append_left _ (List.mem_append_left _ (List.mem_append_left _ (List.mem_of_getElem? (i := 2) rfl))))), List.forall_mem_cons.mpr ⟨List.mem_cons_of_mem _ (List.mem_append_left _ (List.mem_append_left _ (List.mem_append_left _ (List.mem_append_left _ (List.mem_of_getElem? (i := 3) rfl))))), List.forall_mem_cons.mpr ⟨List.mem_cons_of_mem _ (List.mem_append_left _ (List.mem_append_left _ (List.mem_append_left _ (List.mem_append_left _ (List.mem_of_getElem? (i := 4) rfl))))), (fun _ h => absurd h List.not_mem_nil)⟩⟩⟩⟩, List.forall_mem_cons.mpr ⟨List.mem_cons_of_mem _ (List.mem_append_left _ (List.mem_append_left _ (List.mem_append_left _ (List.mem_append_left _ (List.mem_of_getElem? (i := 5) rfl))))), List.forall_mem_append.mpr ⟨List.forall_mem_cons.mpr ⟨List.mem_cons_of_mem _ (List.mem_append_left _ (List.mem_append_left _ (List.mem_append_left _ (List.mem_append_left _ (List.mem_of_getElem? (i := 6) rfl))))), (fun _ h => absurd h List.not_mem_nil)⟩, (fun _ h => List.mem_cons_of_mem _ (List.mem_append_left _ (List.mem_append_right _ h)))⟩⟩⟩) (by decide +kernel)
set_option maxRecDepth 20000 in
theorem gm_X11_standard_e_X11_isBelow_91 : GoodIn wm_X11_standard_e (va_wsS RX11 91 yX11_isBelow wm_X11_isBelow) := goodIn_w (List.forall_mem_append.mpr ⟨List.forall_mem_cons.mpr ⟨List.mem_cons_of_mem _ (List.mem_append_left _ (List.mem_append_left _ (List.mem_append_left _ (List.mem_append_left _ (List.mem_of_getElem? (i := 7) rfl))))), List.forall_mem_cons.mpr ⟨List.mem_cons_of_mem _ (List.mem_append_left _ (List.mem_append_left _ (List.mem_append_left _ (List.mem_append_left _ (List.mem_of_getElem? (i := 8) rfl))))), List.forall_mem_cons.mpr ⟨List.mem_cons_of_mem _ (List.mem_append_left _ (List.mem_append_left _ (List.mem_append_left _ (List.mem_append_left _ (List.mem_of_getElem? (i := 9) rfl))))), (fun _ h => absurd h List.not_mem_nil)⟩⟩⟩, List.forall_mem_cons.mpr ⟨List.mem_cons_of_mem _ (List.mem_append_left _ (List.mem_append_left _ (List.mem_append_left _ (List.mem_append_left _ (List.mem_of_getElem? (i := 10) rfl))))), (fun _ h => absurd h List.not_mem_nil)⟩⟩) (by decide +kernel)
set_option maxRecDepth 20000 in
theorem gm_X11_standard_e_X9_end_95 : GoodIn wm_X11_standard_e (wsV RX11 95 RX9 yX9_end wm_X9_end) := goodIn_w (List.forall_mem_append.mpr ⟨List.forall_mem_cons.mpr ⟨List.mem_cons_of_mem _ (List.mem_append_left _ (List.mem_append_left _ (List.mem_append_left _ (List.mem_append_left _ (List.mem_of_getElem? (i := 12) rfl))))), List.forall_mem_cons.mpr ⟨List.mem_cons_of_mem _ (List.mem_append_left _ (List.mem_append_left _ (List.mem_append_left _ (List.mem_append_left _ (List.mem_of_getElem? (i := 13) rfl))))), List.forall_mem_cons.mpr ⟨List.mem_cons_of_mem _ (List.mem_append_left _ (List.mem_append_left _ (List.mem_append_left _ (List.mem_append_left _ (List.mem_of_getElem? (i := 14) rfl))))), List.forall_mem_cons.mpr ⟨List.mem_cons_of_mem _ (List.mem_append_left _ (List.mem_append_left _ (List.mem_append_left _ (List.mem_append_left _ (List.mem_of_getElem? (i := 15) rfl))))), (fun _ h => absurd h List.not_mem_nil)⟩⟩⟩⟩, List.forall_mem_cons.mpr ⟨List.mem_cons_of_mem _ (List.mem_append_left _ (List.mem_append_left _ (List.mem_append_left _ (List.mem_append_right _ (List.mem_of_getElem? (i := 0) rfl))))), List.forall_mem_append.mpr ⟨List.forall_mem_cons.mpr ⟨List.mem_cons_of_mem _ (List.mem_append_left _ (List.mem_append_left _ (List.mem_append_left _ (List.mem_append_right _ (List.mem_of_getElem? (i := 1) rfl))))), List.forall_mem_cons.mpr ⟨List.mem_cons_of_mem _ (List.mem_append_left _ (List.mem_append_left _ (List.mem_append_left _ (List.mem_append_right _ (List.mem_of_getElem? (i := 2) rfl))))), (fun _ h => absurd h List.not_mem_nil)⟩⟩, (fun _ h => List.mem_cons_of_mem _ (List.mem_append_right _ h))⟩⟩⟩) (by decide +kernel)
set_option maxRecDepth 20000 in
theorem gm_X11_standard_e_X10_changeStandard_e_98 : GoodIn wm_X11_standard_e (wsV RX11 98 RX10 yX10_changeStandard wm_X10_changeStandard_e) := goodIn_w (List.forall_mem_append.mpr ⟨List.forall_mem_cons.mpr ⟨List.mem_cons_of_mem _ (List.mem_append_left _ (List.mem_append_left _ (List.mem_append_left _ (List.mem_append_right _ (List.mem_of_getElem? (i := 3) rfl))))), List.forall_mem_cons.mpr ⟨List.mem_cons_of_mem _ (List.mem_append_left _ (List.mem_append_left _ (List.mem_append_left _ (List.mem_append_right _ (List.mem_of_getElem? (i := 4) rfl))))), List.forall_mem_cons.mpr ⟨List.mem_cons_of_mem _ (List.mem_append_left _ (List.mem_append_left _ (List.mem_append_left _ (List.mem_append_right _ (List.mem_of_getElem? (i := 5) rfl))))), List.forall_mem_cons.mpr ⟨List.mem_cons_of_mem _ (List.mem_append_left _ (List.mem_append_left _ (List.mem_append_left _ (List.mem_append_left _ (List.mem_of_getElem? (i := 4) rfl))))), (fun _ h => absurd h List.not_mem_nil)⟩⟩⟩⟩, List.forall_mem_cons.mpr ⟨List.mem_cons_of_mem _ (List.mem_append_left _ (List.mem_append_left _ (List.mem_append_left _ (List.mem_append_right _ (List.mem_of_getElem? (i := 6) rfl))))), List.forall_mem_append.mpr ⟨List.forall_mem_cons.mpr ⟨List.mem_cons_of_mem _ (List.mem_append_left _ (List.mem_append_left _ (List.mem_append_left _ (List.mem_append_right _ (List.mem_of_getElem? (i := 7) rfl))))), (fun _ h => absurd h List.not_mem_nil)⟩, (fun _ h => List.mem_cons_of_mem _ (List.mem_append_left _ (List.mem_append_right _ h)))⟩⟩⟩) (by decide +kernel)
set_option maxHeartbeats 4000000 in
set_option maxRecDepth 100000 in
theorem x_X11_standard_e (l : Launch) (D : va_G) (sz : Nat) (sk : Value) (a : Nat → Nat) (t : Nat → ClassId) (i : Nat → Int32) (q : Int64) (c : Nat → Nat → Int32) (d : Nat → Nat → Int64) (k1 : Int32) (f : Int32) (v1 : Int32) (hI : xInv i c) : Met l yX11_standard wm_X11_standard_e ({ frames := 1, cells := 0, slots := 0, locals := 24 }) (va_Pc [.ref (a 100), .int k1, .int f, .int v1] (yB (a 186) D sz (xwT sk a t i q c d) (xtT t))) (va_Qi (fun (r : Int32) (u : MS) => True ∧ xInv u.1 u.2.2.1 ∧ (∀ k, k ∉ ([146, 148] : List Nat) → u.1 k = i k) ∧ (∀ k, k ∉ ([107] : List Nat) → u.2.2.1 k = c k) ∧ (xEn (i 146) (i 148) (u.1 146) (u.1 148)) ∧ (StR (c 107) k1 f v1 (i 110).toInt r) ∧ (StU (c 107) (u.2.2.1 107) k1 f v1 (i 110).toInt)) (oC D (va_A (xwT sk a t i q c d) sz) (fun u : MS => xwT sk a t u.1 u.2.1 u.2.2.1 u.2.2.2) (fun _ => [])) (va_A (xwT sk a t i q c d) sz)) 0 0 (va_A (xwT sk a t i q c d) sz) := by
  refine Met.ofW (cc := cX11_standard) (maxL := 4) (ret := (some .int)) (by decide +kernel) rfl ?_
  intro p e s m args below meth cd s₁ B hml hv
  obtain ⟨rfl, ⟨hsz, hP, hK, hD0⟩, hN, hZ, hBW⟩ := hv
  have hx := B.exec
  have hb := B.bytes
  have hr := B.returns
  have hts := atoms_spec (ws := wm_X11_standard_e) B.pre
  have hown : s.vm.findClass RX11 = some m.cls := findClass_of_methodNamed B.named
  have hlocks := B.notSynchronized
  subst hsz
  have hD := hD0.self (sz := s.heap.size)
  have hZ := xZ_A hZ hP hBW
  generalize hAe : va_A (xwT sk a t i q c d) s.heap.size = A at hD hZ ⊢
  have hA : ∀ q : Nat, s.heap.size ≤ q → A q := fun q h => by rw [← hAe]; exact Or.inr h
  have hS : va_S A s.heap s.heap [] := va_S.rf
  have hfi : ∀ k, k ∉ ([] : List Nat) → i k = i k := fun _ _ => rfl
  have hfc : ∀ k, k ∉ ([] : List Nat) → c k = c k := fun _ _ => rfl
  have hl := lv_entry ([.ref (a 100), .int k1, .int f, .int v1]) (n := 4) (Nat.le_of_ble_eq_true rfl)
  rw [lg_entry_eq]
  generalize (lg_sl ([.ref (a 100), .int k1, .int f, .int v1]) ++ List.replicate (4 - (lg_sl ([.ref (a 100), .int k1, .int f, .int v1])).length) Slot.unset).toArray = ls at hl ⊢
  have hl : lv_has ls 4 [(0, .ref (a 100)), (1, .int k1), (2, .int f), (3, .int v1)] := hl
  have rb110_i : 6 ≤ (i 110).toInt ∧ (i 110).toInt ≤ 24 := hI.1 110
  refine lv_aload_n hx hb dX11_standard_0 rfl (lv_at hl 0 rfl) ?_
  refine xgT_X_world hx hb hts (fun _ h => List.mem_cons_of_mem _ (List.mem_append_left _ (List.mem_append_left _ (List.mem_append_right _ h)))) hown hK hP (hts (.fieldLink RX11 10 "TalePlay" "world" "LTalePlay$World;") (List.mem_cons_of_mem _ (List.mem_append_left _ (List.mem_append_left _ (List.mem_append_left _ (List.mem_append_left _ (List.mem_of_getElem? (i := 0) rfl))))))) dX11_standard_1 ?_
  refine lv_iload_n hx hb dX11_standard_4 rfl (lv_at hl 1 rfl) ?_
  refine ro_calli (va_runV (As := [.int k1]) (rest := []) ⟨hx, hb, hml, hown, hts⟩ (x_X10_hasKind l D s.heap.size .null a t i q c d k1 hI ) (cwV 1 hts gm_X11_standard_e_X10_hasKind_80 rfl rfl rfl (by decide +kernel) ⟨Nat.le_of_ble_eq_true rfl, Nat.le_of_ble_eq_true rfl⟩) (yA_V hN (xZ_k hZ hS hA) (xkT_W hK) (xuT_W (sk := sk) hP) (ci := 10) (q0 := 0) rfl rfl) rfl rfl hl.1 rfl (lv_room (Nat.le_of_ble_eq_true rfl)) dX11_standard_5 ⟨Nat.le_of_ble_eq_true rfl, Nat.le_of_ble_eq_true rfl⟩) hS hA hP (fun r1 u1 H locs hw1 hP hS => ?_)
  have hw1 : r1 = if (0 ≤ k1.toInt ∧ k1.toInt < (i 110).toInt) then 1 else 0 := hw1
  refine lv_if_eq (tgt := 35) hx hb dX11_standard_8 (by decide +kernel) (fun c2 => ?_) (fun c2 => ?_)
  · have f2 := fl_f hw1 c2
    refine lv_iconst (v := (-1)) hx hb dX11_standard_35 (by decide +kernel) ?_
    exact rw_iret (i, q, c, d) hx hb hr hlocks hS (hK.sub (tys' := []) [] rfl) hP hD dX11_standard_36 ⟨trivial, hI, fr_w hfi (by decide +kernel), fr_w hfc (by decide +kernel), (show xEn (i 146) (i 148) ((i 146) : Int32) ((i 148) : Int32) from Or.inr ⟨rfl, rfl⟩), (show StR (c 107) k1 f v1 (i 110).toInt ((-1) : Int32) from Or.inl ⟨by unfold StB; omega, by decide⟩), (show StU (c 107) (c 107) k1 f v1 (i 110).toInt from Or.inl ⟨by unfold StB; omega, rfl⟩)⟩
  · have f2 := fl_t hw1 c2
    refine lv_iload_n hx hb dX11_standard_11 rfl (lv_at hl 2 rfl) ?_
    refine lv_bipush (v := 6) hx hb dX11_standard_12 (by decide +kernel) ?_
    have hPc := hP.sub (ws' := []) [] rfl
    have hKc := hK.sub (tys' := []) [] rfl
    refine ro_calli (va_runS (As := [.int f, .int 6]) (rest := []) ⟨hx, hb, hml, hown, hts⟩ (c_X11_isBelow l D H.size f 6 f.toInt 6 rfl (by decide +kernel)) (va_cwS 2 hts gm_X11_standard_e_X11_isBelow_91 rfl rfl rfl (by decide +kernel) ⟨Nat.le_of_ble_eq_true rfl, Nat.le_of_ble_eq_true rfl⟩) (pA_S hKc hPc) rfl rfl hl.1 rfl (lv_room (Nat.le_of_ble_eq_true rfl)) dX11_standard_14 ⟨Nat.le_of_ble_eq_true rfl, Nat.le_of_ble_eq_true rfl⟩) hS hA hP (fun r4 u4 H locs hw4 hP hS => ?_)
    have hw4 : r4 = if (0 ≤ f.toInt ∧ f.toInt < 6) then 1 else 0 := hw4
    refine lv_if_eq (tgt := 35) hx hb dX11_standard_17 (by decide +kernel) (fun c5 => ?_) (fun c5 => ?_)
    · have f5 := fl_f hw4 c5
      refine lv_iconst (v := (-1)) hx hb dX11_standard_35 (by decide +kernel) ?_
      exact rw_iret (i, q, c, d) hx hb hr hlocks hS (hK.sub (tys' := []) [] rfl) hP hD dX11_standard_36 ⟨trivial, hI, fr_w hfi (by decide +kernel), fr_w hfc (by decide +kernel), (show xEn (i 146) (i 148) ((i 146) : Int32) ((i 148) : Int32) from Or.inr ⟨rfl, rfl⟩), (show StR (c 107) k1 f v1 (i 110).toInt ((-1) : Int32) from Or.inl ⟨by unfold StB; omega, by decide⟩), (show StU (c 107) (c 107) k1 f v1 (i 110).toInt from Or.inl ⟨by unfold StB; omega, rfl⟩)⟩
    · have f5 := fl_t hw4 c5
      refine lv_iload_n hx hb dX11_standard_20 rfl (lv_at hl 3 rfl) ?_
      refine lv_if_eq (tgt := 37) hx hb dX11_standard_21 (by decide +kernel) (fun c6 => ?_) (fun c6 => ?_)
      · have f6 := (ti_eq (a := v1.toInt) (b := 0) rfl (by decide +kernel)).mp c6
        refine lv_aload_n hx hb dX11_standard_37 rfl (lv_at hl 0 rfl) ?_
        refine xgT_X_tale hx hb hts (fun _ h => List.mem_cons_of_mem _ (List.mem_append_left _ (List.mem_append_left _ (List.mem_append_right _ h)))) hown hK hP (hts (.fieldLink RX11 46 "TalePlay" "tale" "LTalePlay$Tale;") (List.mem_cons_of_mem _ (List.mem_append_left _ (List.mem_append_left _ (List.mem_append_left _ (List.mem_append_left _ (List.mem_of_getElem? (i := 11) rfl))))))) dX11_standard_38 ?_
        refine al_callv (va_runV (As := []) (rest := []) ⟨hx, hb, hml, hown, hts⟩ (x_X9_end l D H.size sk a t i q c d  hI ) (cwV 0 hts gm_X11_standard_e_X9_end_95 rfl rfl rfl (by decide +kernel) ⟨Nat.le_of_ble_eq_true rfl, Nat.le_of_ble_eq_true rfl⟩) (yB_V hN (xZ_k hZ hS hA) (xZ_n hZ hD) hK hP hD (ci := 9) (q0 := 33) rfl rfl) rfl rfl hl.1 rfl (lv_room (Nat.le_of_ble_eq_true rfl)) dX11_standard_41 ⟨Nat.le_of_ble_eq_true rfl, Nat.le_of_ble_eq_true rfl⟩) hS hA hP hD (fun u7 H locs hw7 hP hD hS => ?_)
        obtain ⟨i7, q7, c7, d7⟩ := u7
        have hw7 : True ∧ xInv i7 c7 ∧ (∀ k, k ∉ ([146, 148] : List Nat) → i7 k = i k) ∧ (∀ k, k ∉ ([] : List Nat) → c7 k = c k) ∧ ((i7 146).toInt = 0) ∧ ((i7 148).toInt = 0) := hw7
        obtain ⟨hw7, hI, hei7, hec7, hxp7_0, hxp7_1⟩ := hw7
        have hxp7_0 : (i7 146).toInt = 0 := hxp7_0
        have hxp7_1 : (i7 148).toInt = 0 := hxp7_1
        have hfi : ∀ k, k ∉ ([146, 148] : List Nat) → i7 k = i k := fr_z hfi hei7 (by decide +kernel) (by decide +kernel)
        have hfc : ∀ k, k ∉ ([] : List Nat) → c7 k = c k := fr_z hfc hec7 (by decide +kernel) (by decide +kernel)
        have hen : (i7 146).toInt = 0 := hxp7_0
        refine lv_aload_n hx hb dX11_standard_44 rfl (lv_at hl 0 rfl) ?_
        refine xgT_X_world hx hb hts (fun _ h => List.mem_cons_of_mem _ (List.mem_append_left _ (List.mem_append_left _ (List.mem_append_right _ h)))) hown hK hP (hts (.fieldLink RX11 10 "TalePlay" "world" "LTalePlay$World;") (List.mem_cons_of_mem _ (List.mem_append_left _ (List.mem_append_left _ (List.mem_append_left _ (List.mem_append_left _ (List.mem_of_getElem? (i := 0) rfl))))))) dX11_standard_45 ?_
        refine lv_iload_n hx hb dX11_standard_48 rfl (lv_at hl 1 rfl) ?_
        refine lv_iload_n hx hb dX11_standard_49 rfl (lv_at hl 2 rfl) ?_
        refine lv_iload_n hx hb dX11_standard_50 rfl (lv_at hl 3 rfl) ?_
        refine al_calli (va_runV (As := [.int k1, .int f, .int v1]) (rest := []) ⟨hx, hb, hml, hown, hts⟩ (x_X10_changeStandard_e l D H.size sk a t i7 q7 c7 d7 k1 f v1 hI (show 0 ≤ k1.toInt ∧ k1.toInt ≤ 23 from by omega) (show 0 ≤ f.toInt ∧ f.toInt ≤ 5 from by omega) (show v1.toInt = -9 ∨ (0 ≤ v1.toInt ∧ v1.toInt ≤ 1) from by omega)) (cwV 3 hts gm_X11_standard_e_X10_changeStandard_e_98 rfl rfl rfl (by decide +kernel) ⟨Nat.le_of_ble_eq_true rfl, Nat.le_of_ble_eq_true rfl⟩) (yB_V hN (xZ_k hZ hS hA) (xZ_n hZ hD) hK hP hD (ci := 10) (q0 := 2) rfl rfl) rfl rfl hl.1 rfl (lv_room (Nat.le_of_ble_eq_true rfl)) dX11_standard_51 ⟨Nat.le_of_ble_eq_true rfl, Nat.le_of_ble_eq_true rfl⟩) hS hA hP hD (fun r8 u8 H locs hw8 hP hD hS => ?_)
        obtain ⟨i8, q8, c8, d8⟩ := u8
        have hw8 : True ∧ xInv i8 c8 ∧ (∀ k, k ∉ ([] : List Nat) → i8 k = i7 k) ∧ (∀ k, k ∉ ([107] : List Nat) → c8 k = c7 k) ∧ (r8 = (c7 107 (k1.toInt * 6 + f.toInt).toNat)) ∧ ((c8 107) = upd (c7 107) (k1.toInt * 6 + f.toInt).toNat v1) := hw8
        obtain ⟨hw8, hI, hei8, hec8, hxp8_0, hxp8_1⟩ := hw8
        have hxp8_0 : r8 = (c 107 (k1.toInt * 6 + f.toInt).toNat) := by have h9 := hxp8_0; rw [show c7 107 = c 107 from hfc 107 (by decide +kernel)] at h9; exact h9
        have hxp8_1 : (c8 107) = upd (c 107) (k1.toInt * 6 + f.toInt).toNat v1 := by have h9 := hxp8_1; rw [show c7 107 = c 107 from hfc 107 (by decide +kernel)] at h9; exact h9
        have hfi : ∀ k, k ∉ ([146, 148] : List Nat) → i8 k = i k := fr_z hfi hei8 (by decide +kernel) (by decide +kernel)
        have hfc : ∀ k, k ∉ ([107] : List Nat) → c8 k = c k := fr_z hfc hec8 (by decide +kernel) (by decide +kernel)
        have hen : ((i8 146) : Int32).toInt = 0 := by rw [show i8 146 = i7 146 from hei8 146 (by decide +kernel)]; exact hen
        exact rw_iret (i8, q8, c8, d8) hx hb hr hlocks hS (hK.sub (tys' := []) [] rfl) hP hD dX11_standard_54 ⟨trivial, hI, fr_w hfi (by decide +kernel), fr_w hfc (by decide +kernel), (show xEn (i 146) (i 148) ((i8 146) : Int32) ((i8 148) : Int32) from Or.inl hen), (show StR (c 107) k1 f v1 (i 110).toInt (r8 : Int32) from Or.inr ⟨by unfold StB; omega, hxp8_0⟩), (show StU (c 107) (c8 107) k1 f v1 (i 110).toInt from Or.inr ⟨by unfold StB; omega, hxp8_1⟩)⟩
      · have f6 := mt (ti_eq (a := v1.toInt) (b := 0) rfl (by decide +kernel)).mpr c6
        refine lv_iload_n hx hb dX11_standard_24 rfl (lv_at hl 3 rfl) ?_
        refine lv_iconst (v := 1) hx hb dX11_standard_25 (by decide +kernel) ?_
        refine lv_icmp_eq (tgt := 37) hx hb dX11_standard_26 (by decide +kernel) (fun c9 => ?_) (fun c9 => ?_)
        · have f9 := (ti_eq (a := v1.toInt) (b := 1) rfl (by decide +kernel)).mp c9
          refine lv_aload_n hx hb dX11_standard_37 rfl (lv_at hl 0 rfl) ?_
          refine xgT_X_tale hx hb hts (fun _ h => List.mem_cons_of_mem _ (List.mem_append_left _ (List.mem_append_left _ (List.mem_append_right _ h)))) hown hK hP (hts (.fieldLink RX11 46 "TalePlay" "tale" "LTalePlay$Tale;") (List.mem_cons_of_mem _ (List.mem_append_left _ (List.mem_append_left _ (List.mem_append_left _ (List.mem_append_left _ (List.mem_of_getElem? (i := 11) rfl))))))) dX11_standard_38 ?_
          refine al_callv (va_runV (As := []) (rest := []) ⟨hx, hb, hml, hown, hts⟩ (x_X9_end l D H.size sk a t i q c d  hI ) (cwV 0 hts gm_X11_standard_e_X9_end_95 rfl rfl rfl (by decide +kernel) ⟨Nat.le_of_ble_eq_true rfl, Nat.le_of_ble_eq_true rfl⟩) (yB_V hN (xZ_k hZ hS hA) (xZ_n hZ hD) hK hP hD (ci := 9) (q0 := 33) rfl rfl) rfl rfl hl.1 rfl (lv_room (Nat.le_of_ble_eq_true rfl)) dX11_standard_41 ⟨Nat.le_of_ble_eq_true rfl, Nat.le_of_ble_eq_true rfl⟩) hS hA hP hD (fun u10 H locs hw10 hP hD hS => ?_)
          obtain ⟨i10, q10, c10, d10⟩ := u10
          have hw10 : True ∧ xInv i10 c10 ∧ (∀ k, k ∉ ([146, 148] : List Nat) → i10 k = i k) ∧ (∀ k, k ∉ ([] : List Nat) → c10 k = c k) ∧ ((i10 146).toInt = 0) ∧ ((i10 148).toInt = 0) := hw10
          obtain ⟨hw10, hI, hei10, hec10, hxp10_0, hxp10_1⟩ := hw10
          have hxp10_0 : (i10 146).toInt = 0 := hxp10_0
          have hxp10_1 : (i10 148).toInt = 0 := hxp10_1
          have hfi : ∀ k, k ∉ ([146, 148] : List Nat) → i10 k = i k := fr_z hfi hei10 (by decide +kernel) (by decide +kernel)
          have hfc : ∀ k, k ∉ ([] : List Nat) → c10 k = c k := fr_z hfc hec10 (by decide +kernel) (by decide +kernel)
          have hen : (i10 146).toInt = 0 := hxp10_0
          refine lv_aload_n hx hb dX11_standard_44 rfl (lv_at hl 0 rfl) ?_
          refine xgT_X_world hx hb hts (fun _ h => List.mem_cons_of_mem _ (List.mem_append_left _ (List.mem_append_left _ (List.mem_append_right _ h)))) hown hK hP (hts (.fieldLink RX11 10 "TalePlay" "world" "LTalePlay$World;") (List.mem_cons_of_mem _ (List.mem_append_left _ (List.mem_append_left _ (List.mem_append_left _ (List.mem_append_left _ (List.mem_of_getElem? (i := 0) rfl))))))) dX11_standard_45 ?_
          refine lv_iload_n hx hb dX11_standard_48 rfl (lv_at hl 1 rfl) ?_
          refine lv_iload_n hx hb dX11_standard_49 rfl (lv_at hl 2 rfl) ?_
          refine lv_iload_n hx hb dX11_standard_50 rfl (lv_at hl 3 rfl) ?_
          refine al_calli (va_runV (As := [.int k1, .int f, .int v1]) (rest := []) ⟨hx, hb, hml, hown, hts⟩ (x_X10_changeStandard_e l D H.size sk a t i10 q10 c10 d10 k1 f v1 hI (show 0 ≤ k1.toInt ∧ k1.toInt ≤ 23 from by omega) (show 0 ≤ f.toInt ∧ f.toInt ≤ 5 from by omega) (show v1.toInt = -9 ∨ (0 ≤ v1.toInt ∧ v1.toInt ≤ 1) from by omega)) (cwV 3 hts gm_X11_standard_e_X10_changeStandard_e_98 rfl rfl rfl (by decide +kernel) ⟨Nat.le_of_ble_eq_true rfl, Nat.le_of_ble_eq_true rfl⟩) (yB_V hN (xZ_k hZ hS hA) (xZ_n hZ hD) hK hP hD (ci := 10) (q0 := 2) rfl rfl) rfl rfl hl.1 rfl (lv_room (Nat.le_of_ble_eq_true rfl)) dX11_standard_51 ⟨Nat.le_of_ble_eq_true rfl, Nat.le_of_ble_eq_true rfl⟩) hS hA hP hD (fun r11 u11 H locs hw11 hP hD hS => ?_)
          obtain ⟨i11, q11, c11, d11⟩ := u11
          have hw11 : True ∧ xInv i11 c11 ∧ (∀ k, k ∉ ([] : List Nat) → i11 k = i10 k) ∧ (∀ k, k ∉ ([107] : List Nat) → c11 k = c10 k) ∧ (r11 = (c10 107 (k1.toInt * 6 + f.toInt).toNat)) ∧ ((c11 107) = upd (c10 107) (k1.toInt * 6 + f.toInt).toNat v1) := hw11
          obtain ⟨hw11, hI, hei11, hec11, hxp11_0, hxp11_1⟩ := hw11
          have hxp11_0 : r11 = (c 107 (k1.toInt * 6 + f.toInt).toNat) := by have h9 := hxp11_0; rw [show c10 107 = c 107 from hfc 107 (by decide +kernel)] at h9; exact h9
          have hxp11_1 : (c11 107) = upd (c 107) (k1.toInt * 6 + f.toInt).toNat v1 := by have h9 := hxp11_1; rw [show c10 107 = c 107 from hfc 107 (by decide +kernel)] at h9; exact h9
          have hfi : ∀ k, k ∉ ([146, 148] : List Nat) → i11 k = i k := fr_z hfi hei11 (by decide +kernel) (by decide +kernel)
          have hfc : ∀ k, k ∉ ([107] : List Nat) → c11 k = c k := fr_z hfc hec11 (by decide +kernel) (by decide +kernel)
          have hen : ((i11 146) : Int32).toInt = 0 := by rw [show i11 146 = i10 146 from hei11 146 (by decide +kernel)]; exact hen
          exact rw_iret (i11, q11, c11, d11) hx hb hr hlocks hS (hK.sub (tys' := []) [] rfl) hP hD dX11_standard_54 ⟨trivial, hI, fr_w hfi (by decide +kernel), fr_w hfc (by decide +kernel), (show xEn (i 146) (i 148) ((i11 146) : Int32) ((i11 148) : Int32) from Or.inl hen), (show StR (c 107) k1 f v1 (i 110).toInt (r11 : Int32) from Or.inr ⟨by unfold StB; omega, hxp11_0⟩), (show StU (c 107) (c11 107) k1 f v1 (i 110).toInt from Or.inr ⟨by unfold StB; omega, hxp11_1⟩)⟩
        · have f9 := mt (ti_eq (a := v1.toInt) (b := 1) rfl (by decide +kernel)).mpr c9
          refine lv_iload_n hx hb dX11_standard_29 rfl (lv_at hl 3 rfl) ?_
          refine lv_bipush (v := (-9)) hx hb dX11_standard_30 (by decide +kernel) ?_
          refine lv_icmp_eq (tgt := 37) hx hb dX11_standard_32 (by decide +kernel) (fun c12 => ?_) (fun c12 => ?_)
          · have f12 := (ti_eq (a := v1.toInt) (b := (-9)) rfl (by decide +kernel)).mp c12
            refine lv_aload_n hx hb dX11_standard_37 rfl (lv_at hl 0 rfl) ?_
            refine xgT_X_tale hx hb hts (fun _ h => List.mem_cons_of_mem _ (List.mem_append_left _ (List.mem_append_left _ (List.mem_append_right _ h)))) hown hK hP (hts (.fieldLink RX11 46 "TalePlay" "tale" "LTalePlay$Tale;") (List.mem_cons_of_mem _ (List.mem_append_left _ (List.mem_append_left _ (List.mem_append_left _ (List.mem_append_left _ (List.mem_of_getElem? (i := 11) rfl))))))) dX11_standard_38 ?_
            refine al_callv (va_runV (As := []) (rest := []) ⟨hx, hb, hml, hown, hts⟩ (x_X9_end l D H.size sk a t i q c d  hI ) (cwV 0 hts gm_X11_standard_e_X9_end_95 rfl rfl rfl (by decide +kernel) ⟨Nat.le_of_ble_eq_true rfl, Nat.le_of_ble_eq_true rfl⟩) (yB_V hN (xZ_k hZ hS hA) (xZ_n hZ hD) hK hP hD (ci := 9) (q0 := 33) rfl rfl) rfl rfl hl.1 rfl (lv_room (Nat.le_of_ble_eq_true rfl)) dX11_standard_41 ⟨Nat.le_of_ble_eq_true rfl, Nat.le_of_ble_eq_true rfl⟩) hS hA hP hD (fun u13 H locs hw13 hP hD hS => ?_)
            obtain ⟨i13, q13, c13, d13⟩ := u13
            have hw13 : True ∧ xInv i13 c13 ∧ (∀ k, k ∉ ([146, 148] : List Nat) → i13 k = i k) ∧ (∀ k, k ∉ ([] : List Nat) → c13 k = c k) ∧ ((i13 146).toInt = 0) ∧ ((i13 148).toInt = 0) := hw13
            obtain ⟨hw13, hI, hei13, hec13, hxp13_0, hxp13_1⟩ := hw13
            have hxp13_0 : (i13 146).toInt = 0 := hxp13_0
            have hxp13_1 : (i13 148).toInt = 0 := hxp13_1
            have hfi : ∀ k, k ∉ ([146, 148] : List Nat) → i13 k = i k := fr_z hfi hei13 (by decide +kernel) (by decide +kernel)
            have hfc : ∀ k, k ∉ ([] : List Nat) → c13 k = c k := fr_z hfc hec13 (by decide +kernel) (by decide +kernel)
            have hen : (i13 146).toInt = 0 := hxp13_0
            refine lv_aload_n hx hb dX11_standard_44 rfl (lv_at hl 0 rfl) ?_
            refine xgT_X_world hx hb hts (fun _ h => List.mem_cons_of_mem _ (List.mem_append_left _ (List.mem_append_left _ (List.mem_append_right _ h)))) hown hK hP (hts (.fieldLink RX11 10 "TalePlay" "world" "LTalePlay$World;") (List.mem_cons_of_mem _ (List.mem_append_left _ (List.mem_append_left _ (List.mem_append_left _ (List.mem_append_left _ (List.mem_of_getElem? (i := 0) rfl))))))) dX11_standard_45 ?_
            refine lv_iload_n hx hb dX11_standard_48 rfl (lv_at hl 1 rfl) ?_
            refine lv_iload_n hx hb dX11_standard_49 rfl (lv_at hl 2 rfl) ?_
            refine lv_iload_n hx hb dX11_standard_50 rfl (lv_at hl 3 rfl) ?_
            refine al_calli (va_runV (As := [.int k1, .int f, .int v1]) (rest := []) ⟨hx, hb, hml, hown, hts⟩ (x_X10_changeStandard_e l D H.size sk a t i13 q13 c13 d13 k1 f v1 hI (show 0 ≤ k1.toInt ∧ k1.toInt ≤ 23 from by omega) (show 0 ≤ f.toInt ∧ f.toInt ≤ 5 from by omega) (show v1.toInt = -9 ∨ (0 ≤ v1.toInt ∧ v1.toInt ≤ 1) from by omega)) (cwV 3 hts gm_X11_standard_e_X10_changeStandard_e_98 rfl rfl rfl (by decide +kernel) ⟨Nat.le_of_ble_eq_true rfl, Nat.le_of_ble_eq_true rfl⟩) (yB_V hN (xZ_k hZ hS hA) (xZ_n hZ hD) hK hP hD (ci := 10) (q0 := 2) rfl rfl) rfl rfl hl.1 rfl (lv_room (Nat.le_of_ble_eq_true rfl)) dX11_standard_51 ⟨Nat.le_of_ble_eq_true rfl, Nat.le_of_ble_eq_true rfl⟩) hS hA hP hD (fun r14 u14 H locs hw14 hP hD hS => ?_)
            obtain ⟨i14, q14, c14, d14⟩ := u14
            have hw14 : True ∧ xInv i14 c14 ∧ (∀ k, k ∉ ([] : List Nat) → i14 k = i13 k) ∧ (∀ k, k ∉ ([107] : List Nat) → c14 k = c13 k) ∧ (r14 = (c13 107 (k1.toInt * 6 + f.toInt).toNat)) ∧ ((c14 107) = upd (c13 107) (k1.toInt * 6 + f.toInt).toNat v1) := hw14
            obtain ⟨hw14, hI, hei14, hec14, hxp14_0, hxp14_1⟩ := hw14
            have hxp14_0 : r14 = (c 107 (k1.toInt * 6 + f.toInt).toNat) := by have h9 := hxp14_0; rw [show c13 107 = c 107 from hfc 107 (by decide +kernel)] at h9; exact h9
            have hxp14_1 : (c14 107) = upd (c 107) (k1.toInt * 6 + f.toInt).toNat v1 := by have h9 := hxp14_1; rw [show c13 107 = c 107 from hfc 107 (by decide +kernel)] at h9; exact h9
            have hfi : ∀ k, k ∉ ([146, 148] : List Nat) → i14 k = i k := fr_z hfi hei14 (by decide +kernel) (by decide +kernel)
            have hfc : ∀ k, k ∉ ([107] : List Nat) → c14 k = c k := fr_z hfc hec14 (by decide +kernel) (by decide +kernel)
            have hen : ((i14 146) : Int32).toInt = 0 := by rw [show i14 146 = i13 146 from hei14 146 (by decide +kernel)]; exact hen
            exact rw_iret (i14, q14, c14, d14) hx hb hr hlocks hS (hK.sub (tys' := []) [] rfl) hP hD dX11_standard_54 ⟨trivial, hI, fr_w hfi (by decide +kernel), fr_w hfc (by decide +kernel), (show xEn (i 146) (i 148) ((i14 146) : Int32) ((i14 148) : Int32) from Or.inl hen), (show StR (c 107) k1 f v1 (i 110).toInt (r14 : Int32) from Or.inr ⟨by unfold StB; omega, hxp14_0⟩), (show StU (c 107) (c14 107) k1 f v1 (i 110).toInt from Or.inr ⟨by unfold StB; omega, hxp14_1⟩)⟩
          · have f12 := mt (ti_eq (a := v1.toInt) (b := (-9)) rfl (by decide +kernel)).mpr c12
            refine lv_iconst (v := (-1)) hx hb dX11_standard_35 (by decide +kernel) ?_
            exact rw_iret (i, q, c, d) hx hb hr hlocks hS (hK.sub (tys' := []) [] rfl) hP hD dX11_standard_36 ⟨trivial, hI, fr_w hfi (by decide +kernel), fr_w hfc (by decide +kernel), (show xEn (i 146) (i 148) ((i 146) : Int32) ((i 148) : Int32) from Or.inr ⟨rfl, rfl⟩), (show StR (c 107) k1 f v1 (i 110).toInt ((-1) : Int32) from Or.inl ⟨by unfold StB; omega, by decide⟩), (show StU (c 107) (c 107) k1 f v1 (i 110).toInt from Or.inl ⟨by unfold StB; omega, rfl⟩)⟩

set_option maxHeartbeats 4000000 in
set_option maxRecDepth 100000 in
theorem s_X12_standard_e (l : Launch) (D : va_G) (sz : Nat) (o : Nat) (a : Nat → Nat) (t : Nat → ClassId) (i : Nat → Int32) (q : Int64) (c : Nat → Nat → Int32) (d : Nat → Nat → Int64) (k1 : Int32) (f1 : Int32) (v1 : Int32) (hI : mInv i c) (hs_S : SJ (c 3) (c 6) (c 9) (c 10) (c 11) (c 13) (i 2).toInt (i 5).toInt (i 8).toInt) (hs_J : TJ (c 3) (c 6) (c 23) (c 24) (c 29) (c 30) (i 5).toInt (i 22).toInt (i 27).toInt) : Met l yX12_standard wm_X12_standard ({ frames := 1, cells := 0, slots := 0, locals := 25 }) (va_Pc [.ref o, .int k1, .int f1, .int v1] (pB D sz (mW o a t i q c d) (mT t))) (va_Qi (fun (r : Int32) (u : MS) => True ∧ mInv u.1 u.2.2.1 ∧ (∀ k, k ∉ ([22, 27] : List Nat) → u.1 k = i k) ∧ (∀ k, k ∉ ([4] : List Nat) → u.2.2.1 k = c k) ∧ (SJ (u.2.2.1 3) (u.2.2.1 6) (u.2.2.1 9) (u.2.2.1 10) (u.2.2.1 11) (u.2.2.1 13) (u.1 2).toInt (u.1 5).toInt (u.1 8).toInt) ∧ (TJ (u.2.2.1 3) (u.2.2.1 6) (u.2.2.1 23) (u.2.2.1 24) (u.2.2.1 29) (u.2.2.1 30) (u.1 5).toInt (u.1 22).toInt (u.1 27).toInt) ∧ (StR (c 4) k1 f1 v1 (i 2).toInt r) ∧ (StU (c 4) (u.2.2.1 4) k1 f1 v1 (i 2).toInt)) (oC D (va_A (mW o a t i q c d) sz) (fun u : MS => mW o a t u.1 u.2.1 u.2.2.1 u.2.2.2) (fun _ => [])) (va_A (mW o a t i q c d) sz)) 0 0 (va_A (mW o a t i q c d) sz) := by
  refine Met.ofW (cc := cX12_standard) (maxL := 5) (ret := (some .int)) (by decide +kernel) rfl ?_
  intro p e s m args below meth cd s₁ B hml hv
  obtain ⟨rfl, hsz, hP, hK, hD0⟩ := hv
  have hx := B.exec
  have hb := B.bytes
  have hr := B.returns
  have hts := atoms_spec (ws := wm_X12_standard) B.pre
  have hown : s.vm.findClass RX12 = some m.cls := findClass_of_methodNamed B.named
  have hlocks := B.notSynchronized
  subst hsz
  have hD := hD0.self (sz := s.heap.size)
  generalize hAe : va_A (mW o a t i q c d) s.heap.size = A at hD ⊢
  have hA : ∀ q : Nat, s.heap.size ≤ q → A q := fun q h => by rw [← hAe]; exact Or.inr h
  have hS : va_S A s.heap s.heap [] := va_S.rf
  have hfi : ∀ k, k ∉ ([] : List Nat) → i k = i k := fun _ _ => rfl
  have hfc : ∀ k, k ∉ ([] : List Nat) → c k = c k := fun _ _ => rfl
  have hl := lv_entry ([.ref o, .int k1, .int f1, .int v1]) (n := 5) (Nat.le_of_ble_eq_true rfl)
  rw [lg_entry_eq]
  generalize (lg_sl ([.ref o, .int k1, .int f1, .int v1]) ++ List.replicate (5 - (lg_sl ([.ref o, .int k1, .int f1, .int v1])).length) Slot.unset).toArray = ls at hl ⊢
  have hl : lv_has ls 5 [(0, .ref o), (1, .int k1), (2, .int f1), (3, .int v1)] := hl
  have rb2_i : 6 ≤ (i 2).toInt ∧ (i 2).toInt ≤ 24 := hI.1 2
  refine lv_iload_n hx hb dX12_standard_0 rfl (lv_at hl 1 rfl) ?_
  refine lv_i2l (v := k1.toInt64) hx hb dX12_standard_1 rfl ?_
  refine lv_lconst (v := 0) hx hb dX12_standard_2 (by decide +kernel) ?_
  refine lv_aload_n hx hb dX12_standard_3 rfl (lv_at hl 0 rfl) ?_
  refine mget_2 (v := (i 2)) rfl hx hb hts (fun _ h => List.mem_cons_of_mem _ (List.mem_append_right _ h)) hown hK hP (hts (.fieldLink RX12 151 "TalePlayModel" "kinds" "I") (List.mem_cons_of_mem _ (List.mem_append_left _ (List.mem_of_getElem? (i := 0) rfl)))) dX12_standard_4 ?_
  refine lv_iconst (v := 1) hx hb dX12_standard_7 (by decide +kernel) ?_
  refine lv_isub hx hb dX12_standard_8 ?_
  refine lv_topi (fun x1 ex1 => ?_)
  have tx1 := ti_sub (a := (i 2).toInt) (b := 1) ex1 rfl (by decide +kernel) (by omega) (by omega)
  refine lv_i2l (v := x1.toInt64) hx hb dX12_standard_9 rfl ?_
  have hPc := hP.sub (ws' := []) [] rfl
  have hKc := hK.sub (tys' := []) [] rfl
  refine ro_calli (va_runS (As := [.long k1.toInt64, .long 0, .long x1.toInt64]) (rest := []) ⟨hx, hb, hml, hown, hts⟩ (c_X12_in l D s.heap.size k1.toInt64 0 x1.toInt64 k1.toInt 0 ((i 2).toInt - 1) ((Int32.toInt_toInt64 k1).trans rfl) (by decide +kernel) ((Int32.toInt_toInt64 x1).trans tx1)) (va_cwS 3 hts gm_X12_standard_X12_in rfl rfl rfl (by decide +kernel) ⟨Nat.le_of_ble_eq_true rfl, Nat.le_of_ble_eq_true rfl⟩) (pA_S hKc hPc) rfl rfl hl.1 rfl (lv_room (Nat.le_of_ble_eq_true rfl)) dX12_standard_10 ⟨Nat.le_of_ble_eq_true rfl, Nat.le_of_ble_eq_true rfl⟩) hS hA hP (fun r2 u2 H locs hw2 hP hS => ?_)
  have hw2 : r2 = if (0 ≤ k1.toInt ∧ k1.toInt ≤ ((i 2).toInt - 1)) then 1 else 0 := hw2
  refine lv_if_eq (tgt := 44) hx hb dX12_standard_13 (by decide +kernel) (fun c3 => ?_) (fun c3 => ?_)
  · have f3 := fl_f hw2 c3
    refine lv_iconst (v := (-1)) hx hb dX12_standard_44 (by decide +kernel) ?_
    exact rw_iret (i, q, c, d) hx hb hr hlocks hS (hK.sub (tys' := []) [] rfl) hP hD dX12_standard_45 ⟨trivial, hI, fr_w hfi (by decide +kernel), fr_w hfc (by decide +kernel), (show SJ (c 3) (c 6) (c 9) (c 10) (c 11) (c 13) ((i 2) : Int32).toInt ((i 5) : Int32).toInt ((i 8) : Int32).toInt from hs_S), (show TJ (c 3) (c 6) (c 23) (c 24) (c 29) (c 30) ((i 5) : Int32).toInt ((i 22) : Int32).toInt ((i 27) : Int32).toInt from hs_J), (show StR (c 4) k1 f1 v1 (i 2).toInt ((-1) : Int32) from Or.inl ⟨by unfold StB; omega, by decide⟩), (show StU (c 4) (c 4) k1 f1 v1 (i 2).toInt from Or.inl ⟨by unfold StB; omega, rfl⟩)⟩
  · have f3 := fl_t hw2 c3
    refine lv_iload_n hx hb dX12_standard_16 rfl (lv_at hl 2 rfl) ?_
    refine lv_i2l (v := f1.toInt64) hx hb dX12_standard_17 rfl ?_
    refine lv_lconst (v := 0) hx hb dX12_standard_18 (by decide +kernel) ?_
    refine lv_ldc2 (v := 5) hx hb hown (hts (.constantLong RX12 170 (5)) (List.mem_cons_of_mem _ (List.mem_append_left _ (List.mem_of_getElem? (i := 5) rfl)))) dX12_standard_19 ?_
    have hPc := hP.sub (ws' := []) [] rfl
    have hKc := hK.sub (tys' := []) [] rfl
    refine ro_calli (va_runS (As := [.long f1.toInt64, .long 0, .long 5]) (rest := []) ⟨hx, hb, hml, hown, hts⟩ (c_X12_in l D H.size f1.toInt64 0 5 f1.toInt 0 5 ((Int32.toInt_toInt64 f1).trans rfl) (by decide +kernel) (by decide +kernel)) (va_cwS 3 hts gm_X12_standard_X12_in rfl rfl rfl (by decide +kernel) ⟨Nat.le_of_ble_eq_true rfl, Nat.le_of_ble_eq_true rfl⟩) (pA_S hKc hPc) rfl rfl hl.1 rfl (lv_room (Nat.le_of_ble_eq_true rfl)) dX12_standard_22 ⟨Nat.le_of_ble_eq_true rfl, Nat.le_of_ble_eq_true rfl⟩) hS hA hP (fun r4 u4 H locs hw4 hP hS => ?_)
    have hw4 : r4 = if (0 ≤ f1.toInt ∧ f1.toInt ≤ 5) then 1 else 0 := hw4
    refine lv_if_eq (tgt := 44) hx hb dX12_standard_25 (by decide +kernel) (fun c5 => ?_) (fun c5 => ?_)
    · have f5 := fl_f hw4 c5
      refine lv_iconst (v := (-1)) hx hb dX12_standard_44 (by decide +kernel) ?_
      exact rw_iret (i, q, c, d) hx hb hr hlocks hS (hK.sub (tys' := []) [] rfl) hP hD dX12_standard_45 ⟨trivial, hI, fr_w hfi (by decide +kernel), fr_w hfc (by decide +kernel), (show SJ (c 3) (c 6) (c 9) (c 10) (c 11) (c 13) ((i 2) : Int32).toInt ((i 5) : Int32).toInt ((i 8) : Int32).toInt from hs_S), (show TJ (c 3) (c 6) (c 23) (c 24) (c 29) (c 30) ((i 5) : Int32).toInt ((i 22) : Int32).toInt ((i 27) : Int32).toInt from hs_J), (show StR (c 4) k1 f1 v1 (i 2).toInt ((-1) : Int32) from Or.inl ⟨by unfold StB; omega, by decide⟩), (show StU (c 4) (c 4) k1 f1 v1 (i 2).toInt from Or.inl ⟨by unfold StB; omega, rfl⟩)⟩
    · have f5 := fl_t hw4 c5
      refine lv_iload_n hx hb dX12_standard_28 rfl (lv_at hl 3 rfl) ?_
      refine lv_i2l (v := v1.toInt64) hx hb dX12_standard_29 rfl ?_
      refine lv_lconst (v := 0) hx hb dX12_standard_30 (by decide +kernel) ?_
      refine lv_lconst (v := 1) hx hb dX12_standard_31 (by decide +kernel) ?_
      have hPc := hP.sub (ws' := []) [] rfl
      have hKc := hK.sub (tys' := []) [] rfl
      refine ro_calli (va_runS (As := [.long v1.toInt64, .long 0, .long 1]) (rest := []) ⟨hx, hb, hml, hown, hts⟩ (c_X12_in l D H.size v1.toInt64 0 1 v1.toInt 0 1 ((Int32.toInt_toInt64 v1).trans rfl) (by decide +kernel) (by decide +kernel)) (va_cwS 3 hts gm_X12_standard_X12_in rfl rfl rfl (by decide +kernel) ⟨Nat.le_of_ble_eq_true rfl, Nat.le_of_ble_eq_true rfl⟩) (pA_S hKc hPc) rfl rfl hl.1 rfl (lv_room (Nat.le_of_ble_eq_true rfl)) dX12_standard_32 ⟨Nat.le_of_ble_eq_true rfl, Nat.le_of_ble_eq_true rfl⟩) hS hA hP (fun r6 u6 H locs hw6 hP hS => ?_)
      have hw6 : r6 = if (0 ≤ v1.toInt ∧ v1.toInt ≤ 1) then 1 else 0 := hw6
      refine lv_if_ne (tgt := 46) hx hb dX12_standard_35 (by decide +kernel) (fun c7 => ?_) (fun c7 => ?_)
      · have f7 := fl_t hw6 c7
        refine lv_aload_n hx hb dX12_standard_46 rfl (lv_at hl 0 rfl) ?_
        refine mget_4 hx hb hts (fun _ h => List.mem_cons_of_mem _ (List.mem_append_right _ h)) hown hK hP (hts (.fieldLink RX12 16 "TalePlayModel" "defaults" "[I") (List.mem_cons_of_mem _ (List.mem_append_left _ (List.mem_of_getElem? (i := 6) rfl)))) dX12_standard_47 ?_
        refine lv_bipush (v := 6) hx hb dX12_standard_50 (by decide +kernel) ?_
        refine lv_iload_n hx hb dX12_standard_52 rfl (lv_at hl 1 rfl) ?_
        refine lv_imul hx hb dX12_standard_53 ?_
        refine lv_topi (fun x8 ex8 => ?_)
        have tx8 := ti_mul (a := 6) (b := k1.toInt) ex8 (by decide +kernel) rfl (by omega) (by omega)
        refine lv_iload_n hx hb dX12_standard_54 rfl (lv_at hl 2 rfl) ?_
        refine lv_iadd hx hb dX12_standard_55 ?_
        refine lv_topi (fun x9 ex9 => ?_)
        have tx9 := ti_add (a := (6 * k1.toInt)) (b := f1.toInt) ex9 tx8 rfl (by omega) (by omega)
        refine mld_4 hx hb hK hP (vp_in_iff.mpr (by have h9 : x9.toInt = ((6 * k1.toInt) + f1.toInt) := tx9; omega)) dX12_standard_56 (fun x10 ex10 => ?_)
        have rx10 : x10.toInt = -9 ∨ (0 ≤ x10.toInt ∧ x10.toInt ≤ 1) := by rw [ex10]; exact hI.2 4 _
        refine lv_istore (lv' := [(4, .int x10), (0, .ref o), (1, .int k1), (2, .int f1), (3, .int v1)]) hx hb dX12_standard_57 hl (by decide +kernel) rfl (fun ls hl => ?_)
        refine lv_aload_n hx hb dX12_standard_59 rfl (lv_at hl 1 rfl) ?_
        refine mget_4 hx hb hts (fun _ h => List.mem_cons_of_mem _ (List.mem_append_right _ h)) hown hK hP (hts (.fieldLink RX12 16 "TalePlayModel" "defaults" "[I") (List.mem_cons_of_mem _ (List.mem_append_left _ (List.mem_of_getElem? (i := 6) rfl)))) dX12_standard_60 ?_
        refine lv_bipush (v := 6) hx hb dX12_standard_63 (by decide +kernel) ?_
        refine lv_iload_n hx hb dX12_standard_65 rfl (lv_at hl 2 rfl) ?_
        refine lv_imul hx hb dX12_standard_66 ?_
        refine lv_topi (fun x11 ex11 => ?_)
        have tx11 := ti_mul (a := 6) (b := k1.toInt) ex11 (by decide +kernel) rfl (by omega) (by omega)
        refine lv_iload_n hx hb dX12_standard_67 rfl (lv_at hl 3 rfl) ?_
        refine lv_iadd hx hb dX12_standard_68 ?_
        refine lv_topi (fun x12 ex12 => ?_)
        have tx12 := ti_add (a := (6 * k1.toInt)) (b := f1.toInt) ex12 tx11 rfl (by omega) (by omega)
        refine lv_iload_n hx hb dX12_standard_69 rfl (lv_at hl 4 rfl) ?_
        refine mst_4 hx hb hK hP hD hS (vp_in_iff.mpr (by have h9 : x12.toInt = ((6 * k1.toInt) + f1.toInt) := tx12; omega)) dX12_standard_70 (fun H locs hP hD hS => ?_)
        have hI := mInv_c hI (k := 4) (j := (x12 : Int32).toNatClampNeg) (x := v1) (show (v1 : Int32).toInt = -9 ∨ (0 ≤ (v1 : Int32).toInt ∧ (v1 : Int32).toInt ≤ 1) from by omega)
        have hfc : ∀ k, k ∉ ([4] : List Nat) → (updA c 4 (x12 : Int32).toNatClampNeg v1) k = c k := fr_cz hfc (by decide +kernel) (by decide +kernel)
        refine lv_aload_n hx hb dX12_standard_71 rfl (lv_at hl 1 rfl) ?_
        refine al_callv (va_runV (As := []) (rest := []) ⟨hx, hb, hml, hown, hts⟩ (s_X12_endTale l D H.size o a t i q (updA c 4 (x12 : Int32).toNatClampNeg v1) d  hI ) (cwV 0 hts gm_X12_standard_X12_endTale rfl rfl rfl (by decide +kernel) ⟨Nat.le_of_ble_eq_true rfl, Nat.le_of_ble_eq_true rfl⟩) (pB_V hK hP hD (ci := 12) (q0 := 0) rfl rfl) rfl rfl hl.1 rfl (lv_room (Nat.le_of_ble_eq_true rfl)) dX12_standard_72 ⟨Nat.le_of_ble_eq_true rfl, Nat.le_of_ble_eq_true rfl⟩) hS hA hP hD (fun u13 H locs hw13 hP hD hS => ?_)
        obtain ⟨i13, q13, c13, d13⟩ := u13
        have hw13 : True ∧ mInv i13 c13 ∧ (∀ k, k ∉ ([22, 27] : List Nat) → i13 k = i k) ∧ (∀ k, k ∉ ([] : List Nat) → c13 k = (updA c 4 (x12 : Int32).toNatClampNeg v1) k) ∧ ((i13 22).toInt = -9) ∧ ((i13 27).toInt = 0) := hw13
        obtain ⟨hw13, hI, hei13, hec13, hxp13_0, hxp13_1⟩ := hw13
        have hxp13_0 : (i13 22).toInt = -9 := hxp13_0
        have hxp13_1 : (i13 27).toInt = 0 := hxp13_1
        have hfi : ∀ k, k ∉ ([22, 27] : List Nat) → i13 k = i k := fr_z hfi hei13 (by decide +kernel) (by decide +kernel)
        have hfc : ∀ k, k ∉ ([4] : List Nat) → c13 k = c k := fr_z hfc hec13 (by decide +kernel) (by decide +kernel)
        have hP : va_P D vwCl (mW o a t i13 q13 c13 d13) H := hP
        have hD : va_D A (mW o a t i13 q13 c13 d13) := hD
        refine lv_iload hx hb dX12_standard_75 (lv_at hl 0 rfl) ?_
        exact rw_iret (i13, q13, c13, d13) hx hb hr hlocks hS (hK.sub (tys' := []) [] rfl) hP hD dX12_standard_77 ⟨trivial, hI, fr_w hfi (by decide +kernel), fr_w hfc (by decide +kernel), (show SJ (c13 3) (c13 6) (c13 9) (c13 10) (c13 11) (c13 13) ((i13 2) : Int32).toInt ((i13 5) : Int32).toInt ((i13 8) : Int32).toInt from by rw [show c13 3 = (updA c 4 (x12 : Int32).toNatClampNeg v1) 3 from hec13 3 (by decide +kernel), show c13 6 = (updA c 4 (x12 : Int32).toNatClampNeg v1) 6 from hec13 6 (by decide +kernel), show c13 9 = (updA c 4 (x12 : Int32).toNatClampNeg v1) 9 from hec13 9 (by decide +kernel), show c13 10 = (updA c 4 (x12 : Int32).toNatClampNeg v1) 10 from hec13 10 (by decide +kernel), show c13 11 = (updA c 4 (x12 : Int32).toNatClampNeg v1) 11 from hec13 11 (by decide +kernel), show c13 13 = (updA c 4 (x12 : Int32).toNatClampNeg v1) 13 from hec13 13 (by decide +kernel), show i13 2 = i 2 from hei13 2 (by decide +kernel), show i13 5 = i 5 from hei13 5 (by decide +kernel), show i13 8 = i 8 from hei13 8 (by decide +kernel)]; show SJ (c 3) (c 6) (c 9) (c 10) (c 11) (c 13) (i 2).toInt (i 5).toInt (i 8).toInt; exact hs_S), (show TJ (c13 3) (c13 6) (c13 23) (c13 24) (c13 29) (c13 30) ((i13 5) : Int32).toInt ((i13 22) : Int32).toInt ((i13 27) : Int32).toInt from TJ_no hxp13_0), (show StR (c 4) k1 f1 v1 (i 2).toInt (x10 : Int32) from Or.inr ⟨by unfold StB; omega, (ix_n (f := c 4) (s := x9) (show (x9 : Int32).toInt = k1.toInt * 6 + f1.toInt from by omega) ex10).symm⟩), (show StU (c 4) (c13 4) k1 f1 v1 (i 2).toInt from Or.inr ⟨by unfold StB; omega, by rw [show c13 4 = (updA c 4 (x12 : Int32).toNatClampNeg v1) 4 from hec13 4 (by decide +kernel)]; show upd (c 4) (x12 : Int32).toNatClampNeg v1 = _; rw [cl_t (show (x12 : Int32).toInt = k1.toInt * 6 + f1.toInt from by omega)]⟩)⟩
      · have f7 := fl_f hw6 c7
        refine lv_iload_n hx hb dX12_standard_38 rfl (lv_at hl 3 rfl) ?_
        refine lv_bipush (v := (-9)) hx hb dX12_standard_39 (by decide +kernel) ?_
        refine lv_icmp_eq (tgt := 46) hx hb dX12_standard_41 (by decide +kernel) (fun c14 => ?_) (fun c14 => ?_)
        · have f14 := (ti_eq (a := v1.toInt) (b := (-9)) rfl (by decide +kernel)).mp c14
          refine lv_aload_n hx hb dX12_standard_46 rfl (lv_at hl 0 rfl) ?_
          refine mget_4 hx hb hts (fun _ h => List.mem_cons_of_mem _ (List.mem_append_right _ h)) hown hK hP (hts (.fieldLink RX12 16 "TalePlayModel" "defaults" "[I") (List.mem_cons_of_mem _ (List.mem_append_left _ (List.mem_of_getElem? (i := 6) rfl)))) dX12_standard_47 ?_
          refine lv_bipush (v := 6) hx hb dX12_standard_50 (by decide +kernel) ?_
          refine lv_iload_n hx hb dX12_standard_52 rfl (lv_at hl 1 rfl) ?_
          refine lv_imul hx hb dX12_standard_53 ?_
          refine lv_topi (fun x15 ex15 => ?_)
          have tx15 := ti_mul (a := 6) (b := k1.toInt) ex15 (by decide +kernel) rfl (by omega) (by omega)
          refine lv_iload_n hx hb dX12_standard_54 rfl (lv_at hl 2 rfl) ?_
          refine lv_iadd hx hb dX12_standard_55 ?_
          refine lv_topi (fun x16 ex16 => ?_)
          have tx16 := ti_add (a := (6 * k1.toInt)) (b := f1.toInt) ex16 tx15 rfl (by omega) (by omega)
          refine mld_4 hx hb hK hP (vp_in_iff.mpr (by have h9 : x16.toInt = ((6 * k1.toInt) + f1.toInt) := tx16; omega)) dX12_standard_56 (fun x17 ex17 => ?_)
          have rx17 : x17.toInt = -9 ∨ (0 ≤ x17.toInt ∧ x17.toInt ≤ 1) := by rw [ex17]; exact hI.2 4 _
          refine lv_istore (lv' := [(4, .int x17), (0, .ref o), (1, .int k1), (2, .int f1), (3, .int v1)]) hx hb dX12_standard_57 hl (by decide +kernel) rfl (fun ls hl => ?_)
          refine lv_aload_n hx hb dX12_standard_59 rfl (lv_at hl 1 rfl) ?_
          refine mget_4 hx hb hts (fun _ h => List.mem_cons_of_mem _ (List.mem_append_right _ h)) hown hK hP (hts (.fieldLink RX12 16 "TalePlayModel" "defaults" "[I") (List.mem_cons_of_mem _ (List.mem_append_left _ (List.mem_of_getElem? (i := 6) rfl)))) dX12_standard_60 ?_
          refine lv_bipush (v := 6) hx hb dX12_standard_63 (by decide +kernel) ?_
          refine lv_iload_n hx hb dX12_standard_65 rfl (lv_at hl 2 rfl) ?_
          refine lv_imul hx hb dX12_standard_66 ?_
          refine lv_topi (fun x18 ex18 => ?_)
          have tx18 := ti_mul (a := 6) (b := k1.toInt) ex18 (by decide +kernel) rfl (by omega) (by omega)
          refine lv_iload_n hx hb dX12_standard_67 rfl (lv_at hl 3 rfl) ?_
          refine lv_iadd hx hb dX12_standard_68 ?_
          refine lv_topi (fun x19 ex19 => ?_)
          have tx19 := ti_add (a := (6 * k1.toInt)) (b := f1.toInt) ex19 tx18 rfl (by omega) (by omega)
          refine lv_iload_n hx hb dX12_standard_69 rfl (lv_at hl 4 rfl) ?_
          refine mst_4 hx hb hK hP hD hS (vp_in_iff.mpr (by have h9 : x19.toInt = ((6 * k1.toInt) + f1.toInt) := tx19; omega)) dX12_standard_70 (fun H locs hP hD hS => ?_)
          have hI := mInv_c hI (k := 4) (j := (x19 : Int32).toNatClampNeg) (x := v1) (show (v1 : Int32).toInt = -9 ∨ (0 ≤ (v1 : Int32).toInt ∧ (v1 : Int32).toInt ≤ 1) from by omega)
          have hfc : ∀ k, k ∉ ([4] : List Nat) → (updA c 4 (x19 : Int32).toNatClampNeg v1) k = c k := fr_cz hfc (by decide +kernel) (by decide +kernel)
          refine lv_aload_n hx hb dX12_standard_71 rfl (lv_at hl 1 rfl) ?_
          refine al_callv (va_runV (As := []) (rest := []) ⟨hx, hb, hml, hown, hts⟩ (s_X12_endTale l D H.size o a t i q (updA c 4 (x19 : Int32).toNatClampNeg v1) d  hI ) (cwV 0 hts gm_X12_standard_X12_endTale rfl rfl rfl (by decide +kernel) ⟨Nat.le_of_ble_eq_true rfl, Nat.le_of_ble_eq_true rfl⟩) (pB_V hK hP hD (ci := 12) (q0 := 0) rfl rfl) rfl rfl hl.1 rfl (lv_room (Nat.le_of_ble_eq_true rfl)) dX12_standard_72 ⟨Nat.le_of_ble_eq_true rfl, Nat.le_of_ble_eq_true rfl⟩) hS hA hP hD (fun u20 H locs hw20 hP hD hS => ?_)
          obtain ⟨i20, q20, c20, d20⟩ := u20
          have hw20 : True ∧ mInv i20 c20 ∧ (∀ k, k ∉ ([22, 27] : List Nat) → i20 k = i k) ∧ (∀ k, k ∉ ([] : List Nat) → c20 k = (updA c 4 (x19 : Int32).toNatClampNeg v1) k) ∧ ((i20 22).toInt = -9) ∧ ((i20 27).toInt = 0) := hw20
          obtain ⟨hw20, hI, hei20, hec20, hxp20_0, hxp20_1⟩ := hw20
          have hxp20_0 : (i20 22).toInt = -9 := hxp20_0
          have hxp20_1 : (i20 27).toInt = 0 := hxp20_1
          have hfi : ∀ k, k ∉ ([22, 27] : List Nat) → i20 k = i k := fr_z hfi hei20 (by decide +kernel) (by decide +kernel)
          have hfc : ∀ k, k ∉ ([4] : List Nat) → c20 k = c k := fr_z hfc hec20 (by decide +kernel) (by decide +kernel)
          have hP : va_P D vwCl (mW o a t i20 q20 c20 d20) H := hP
          have hD : va_D A (mW o a t i20 q20 c20 d20) := hD
          refine lv_iload hx hb dX12_standard_75 (lv_at hl 0 rfl) ?_
          exact rw_iret (i20, q20, c20, d20) hx hb hr hlocks hS (hK.sub (tys' := []) [] rfl) hP hD dX12_standard_77 ⟨trivial, hI, fr_w hfi (by decide +kernel), fr_w hfc (by decide +kernel), (show SJ (c20 3) (c20 6) (c20 9) (c20 10) (c20 11) (c20 13) ((i20 2) : Int32).toInt ((i20 5) : Int32).toInt ((i20 8) : Int32).toInt from by rw [show c20 3 = (updA c 4 (x19 : Int32).toNatClampNeg v1) 3 from hec20 3 (by decide +kernel), show c20 6 = (updA c 4 (x19 : Int32).toNatClampNeg v1) 6 from hec20 6 (by decide +kernel), show c20 9 = (updA c 4 (x19 : Int32).toNatClampNeg v1) 9 from hec20 9 (by decide +kernel), show c20 10 = (updA c 4 (x19 : Int32).toNatClampNeg v1) 10 from hec20 10 (by decide +kernel), show c20 11 = (updA c 4 (x19 : Int32).toNatClampNeg v1) 11 from hec20 11 (by decide +kernel), show c20 13 = (updA c 4 (x19 : Int32).toNatClampNeg v1) 13 from hec20 13 (by decide +kernel), show i20 2 = i 2 from hei20 2 (by decide +kernel), show i20 5 = i 5 from hei20 5 (by decide +kernel), show i20 8 = i 8 from hei20 8 (by decide +kernel)]; show SJ (c 3) (c 6) (c 9) (c 10) (c 11) (c 13) (i 2).toInt (i 5).toInt (i 8).toInt; exact hs_S), (show TJ (c20 3) (c20 6) (c20 23) (c20 24) (c20 29) (c20 30) ((i20 5) : Int32).toInt ((i20 22) : Int32).toInt ((i20 27) : Int32).toInt from TJ_no hxp20_0), (show StR (c 4) k1 f1 v1 (i 2).toInt (x17 : Int32) from Or.inr ⟨by unfold StB; omega, (ix_n (f := c 4) (s := x16) (show (x16 : Int32).toInt = k1.toInt * 6 + f1.toInt from by omega) ex17).symm⟩), (show StU (c 4) (c20 4) k1 f1 v1 (i 2).toInt from Or.inr ⟨by unfold StB; omega, by rw [show c20 4 = (updA c 4 (x19 : Int32).toNatClampNeg v1) 4 from hec20 4 (by decide +kernel)]; show upd (c 4) (x19 : Int32).toNatClampNeg v1 = _; rw [cl_t (show (x19 : Int32).toInt = k1.toInt * 6 + f1.toInt from by omega)]⟩)⟩
        · have f14 := mt (ti_eq (a := v1.toInt) (b := (-9)) rfl (by decide +kernel)).mpr c14
          refine lv_iconst (v := (-1)) hx hb dX12_standard_44 (by decide +kernel) ?_
          exact rw_iret (i, q, c, d) hx hb hr hlocks hS (hK.sub (tys' := []) [] rfl) hP hD dX12_standard_45 ⟨trivial, hI, fr_w hfi (by decide +kernel), fr_w hfc (by decide +kernel), (show SJ (c 3) (c 6) (c 9) (c 10) (c 11) (c 13) ((i 2) : Int32).toInt ((i 5) : Int32).toInt ((i 8) : Int32).toInt from hs_S), (show TJ (c 3) (c 6) (c 23) (c 24) (c 29) (c 30) ((i 5) : Int32).toInt ((i 22) : Int32).toInt ((i 27) : Int32).toInt from hs_J), (show StR (c 4) k1 f1 v1 (i 2).toInt ((-1) : Int32) from Or.inl ⟨by unfold StB; omega, by decide⟩), (show StU (c 4) (c 4) k1 f1 v1 (i 2).toInt from Or.inl ⟨by unfold StB; omega, rfl⟩)⟩

def wm_X10_kindIs_e : List Cond := .code yX10_kindIs cX10_kindIs 5 (some .boolean) :: (([.fieldLink RX10 9 "TalePlay$World" "parents" "[I"] : List Cond) ++ wsX100)
set_option maxHeartbeats 4000000 in
set_option maxRecDepth 100000 in
theorem x_X10_kindIs_e (l : Launch) (D : va_G) (sz : Nat) (sk : Value) (a : Nat → Nat) (t : Nat → ClassId) (i : Nat → Int32) (q : Int64) (c : Nat → Nat → Int32) (d : Nat → Nat → Int64) (k1 : Int32) (k2 : Int32) (hI : xInv i c) (hk1 : 0 ≤ k1.toInt ∧ k1.toInt ≤ 23) (hk2 : 0 ≤ k2.toInt) (hs_D : PD (c 105)) : Met l yX10_kindIs wm_X10_kindIs_e ({ frames := 0, cells := 0, slots := 0, locals := 0 }) (va_Pc [.ref (a 104), .int k1, .int k2] (yA (a 186) D sz (xwW sk a t i q c d) (xtW t))) (va_Qi (fun (r : Int32) (_ : Unit) => ((0 ≤ r.toInt ∧ r.toInt ≤ 1) ∧ (Sm r (Ch (kF (c 105)) k1.toInt k2.toInt)))) oA (ro sz)) 0 0 (ro sz) := by
  refine Met.ofW (cc := cX10_kindIs) (maxL := 5) (ret := (some .boolean)) (by decide +kernel) rfl ?_
  intro p e s m args below meth cd s₁ B hml hv
  obtain ⟨rfl, ⟨hsz, hP, hK⟩, hN, hZ⟩ := hv
  have hx := B.exec
  have hb := B.bytes
  have hr := B.returns
  have hts := atoms_spec (ws := wm_X10_kindIs_e) B.pre
  have hown : s.vm.findClass RX10 = some m.cls := findClass_of_methodNamed B.named
  have hlocks := B.notSynchronized
  subst hsz
  have hA : ∀ q : Nat, s.heap.size ≤ q → ro s.heap.size q := fun _ h => h
  have hS : va_S (ro s.heap.size) s.heap s.heap [] := va_S.rf
  have hl := lv_entry ([.ref (a 104), .int k1, .int k2]) (n := 5) (Nat.le_of_ble_eq_true rfl)
  rw [lg_entry_eq]
  generalize (lg_sl ([.ref (a 104), .int k1, .int k2]) ++ List.replicate (5 - (lg_sl ([.ref (a 104), .int k1, .int k2])).length) Slot.unset).toArray = ls at hl ⊢
  have hl : lv_has ls 5 [(0, .ref (a 104)), (1, .int k1), (2, .int k2)] := hl
  refine lv_iload_n hx hb dX10_kindIs_0 rfl (lv_at hl 1 rfl) ?_
  refine lv_istore_n (lv' := [(3, .int k1), (0, .ref (a 104)), (1, .int k1), (2, .int k2)]) hx hb dX10_kindIs_1 rfl hl (by decide +kernel) rfl (fun ls hl => ?_)
  refine lv_iconst (v := 0) hx hb dX10_kindIs_2 (by decide +kernel) ?_
  refine lv_istore (lv' := [(4, .int 0), (3, .int k1), (0, .ref (a 104)), (1, .int k1), (2, .int k2)]) hx hb dX10_kindIs_3 hl (by decide +kernel) rfl (fun ls hl => ?_)
  have lp1 : ∀ (fu : Nat) (y1_4 : Int32) (y1_3 : Int32), (0 ≤ y1_4.toInt ∧ y1_4.toInt ≤ 24) → (y1_3.toInt = -9 ∨ (0 ≤ y1_3.toInt ∧ y1_3.toInt ≤ 23)) → (Ch (kF (c 105)) k1.toInt k2.toInt ↔ Ch (kF (c 105)) y1_3.toInt k2.toInt) → (y1_3.toInt = -9 ∨ y1_3.toInt + y1_4.toInt ≤ 23) → (24 - y1_4.toInt).toNat < fu → ∀ (H : Heap) (locs : List Loc) (ls : Array Slot), va_P D vwCl (xwW sk a t i q c d) H → va_S (ro s.heap.size) s.heap H locs → lv_has ls 5 [(4, .int y1_4), (3, .int y1_3), (0, .ref (a 104)), (1, .int k1), (2, .int k2)] → W p l e (headSpec wm_X10_kindIs_e ({ frames := 0, cells := 0, slots := 0, locals := 0 })).room s m ([.ref (a 104), .int k1, .int k2] : List Value).toArray below meth cd H locs 0 0 (MQ below (va_Qi (fun (r : Int32) (_ : Unit) => ((0 ≤ r.toInt ∧ r.toInt ≤ 1) ∧ (Sm r (Ch (kF (c 105)) k1.toInt k2.toInt)))) oA (ro s.heap.size)) ([.ref (a 104), .int k1, .int k2] : List Value).toArray s 0 0 (ro s.heap.size)) (F0 m 5 ls []) := by
    intro fu
    induction fu with
    | zero => intro y1_4 y1_3 hy1_4 hy1_3 hz1_0 hz1_1 hm; exact absurd hm (Nat.not_lt_zero _)
    | succ fu ih =>
      intro y1_4 y1_3 hy1_4 hy1_3 hz1_0 hz1_1 hm H locs ls hP hS hl
      have ih1 := ih
      refine lv_iload hx hb dX10_kindIs_5 (lv_at hl 0 rfl) ?_
      refine lv_bipush (v := 24) hx hb dX10_kindIs_7 (by decide +kernel) ?_
      refine lv_icmp_ge (tgt := 38) hx hb dX10_kindIs_9 (by decide +kernel) (fun c2 => ?_) (fun c2 => ?_)
      · have f2 := (ti_le (a := 24) (b := y1_4.toInt) (by decide +kernel) rfl).mp c2
        refine lv_iconst (v := 0) hx hb dX10_kindIs_38 (by decide +kernel) ?_
        exact ro_zret hx hb hr hlocks hS rfl dX10_kindIs_39 ⟨(show 0 ≤ (0 : Int32).toInt ∧ (0 : Int32).toInt ≤ 1 from by decide +kernel), (show Sm (0 : Int32) (Ch (kF (c 105)) k1.toInt k2.toInt) from sm_0 (fun h9 => by have h8 := hz1_0.mp h9; rw [show y1_3.toInt = -9 by omega] at h8; have h7 := Ch_nd kF_9 h8; omega))⟩
      · have f2 := mt (ti_le (a := 24) (b := y1_4.toInt) (by decide +kernel) rfl).mpr c2
        refine lv_iload_n hx hb dX10_kindIs_12 rfl (lv_at hl 1 rfl) ?_
        refine lv_bipush (v := (-9)) hx hb dX10_kindIs_13 (by decide +kernel) ?_
        refine lv_icmp_eq (tgt := 38) hx hb dX10_kindIs_15 (by decide +kernel) (fun c3 => ?_) (fun c3 => ?_)
        · have f3 := (ti_eq (a := y1_3.toInt) (b := (-9)) rfl (by decide +kernel)).mp c3
          refine lv_iconst (v := 0) hx hb dX10_kindIs_38 (by decide +kernel) ?_
          exact ro_zret hx hb hr hlocks hS rfl dX10_kindIs_39 ⟨(show 0 ≤ (0 : Int32).toInt ∧ (0 : Int32).toInt ≤ 1 from by decide +kernel), (show Sm (0 : Int32) (Ch (kF (c 105)) k1.toInt k2.toInt) from sm_0 (fun h9 => by have h8 := hz1_0.mp h9; rw [show y1_3.toInt = -9 by omega] at h8; have h7 := Ch_nd kF_9 h8; omega))⟩
        · have f3 := mt (ti_eq (a := y1_3.toInt) (b := (-9)) rfl (by decide +kernel)).mpr c3
          refine lv_iload_n hx hb dX10_kindIs_18 rfl (lv_at hl 1 rfl) ?_
          refine lv_iload_n hx hb dX10_kindIs_19 rfl (lv_at hl 4 rfl) ?_
          refine lv_icmp_ne (tgt := 25) hx hb dX10_kindIs_20 (by decide +kernel) (fun c4 => ?_) (fun c4 => ?_)
          · have f4 := mt (ti_eq (a := y1_3.toInt) (b := k2.toInt) rfl rfl).mpr c4
            refine lv_aload_n hx hb dX10_kindIs_25 rfl (lv_at hl 2 rfl) ?_
            refine xgW_W_parents hx hb hts (fun _ h => List.mem_cons_of_mem _ (List.mem_append_right _ h)) hown hK hP (hts (.fieldLink RX10 9 "TalePlay$World" "parents" "[I") (List.mem_cons_of_mem _ (List.mem_append_left _ (List.mem_of_getElem? (i := 0) rfl)))) dX10_kindIs_26 ?_
            refine lv_iload_n hx hb dX10_kindIs_29 rfl (lv_at hl 1 rfl) ?_
            refine xlW_105 hx hb hK hP (vp_in_iff.mpr (by have h9 : y1_3.toInt = y1_3.toInt := rfl; omega)) dX10_kindIs_30 (fun x5 ex5 => ?_)
            have rx5 : x5.toInt = -9 ∨ (0 ≤ x5.toInt ∧ x5.toInt ≤ 23) := by rw [ex5]; exact hI.2 105 _
            refine lv_istore_n (lv' := [(3, .int x5), (4, .int y1_4), (0, .ref (a 104)), (1, .int k1), (2, .int k2)]) hx hb dX10_kindIs_31 rfl hl (by decide +kernel) rfl (fun ls hl => ?_)
            obtain ⟨x6, ex6⟩ : ∃ y : Int32, y = y1_4 + 1 := ⟨_, rfl⟩
            have tx6 := ti_add (a := y1_4.toInt) (b := 1) ex6 rfl (by decide +kernel) (by omega) (by omega)
            refine lv_iinc (v := x6) (lv' := [(4, .int x6), (3, .int x5), (0, .ref (a 104)), (1, .int k1), (2, .int k2)]) hx hb dX10_kindIs_32 hl (k := 1) rfl (by rw [ex6]; rfl) (by decide +kernel) rfl (fun ls hl => ?_)
            refine lv_goto (tgt := 5) hx hb dX10_kindIs_35 (by decide +kernel) ?_
            exact ih1 x6 x5 (show 0 ≤ x6.toInt ∧ x6.toInt ≤ 24 from by have h50 : x6.toInt = (y1_4.toInt + 1) := tx6; omega) (show x5.toInt = -9 ∨ (0 ≤ x5.toInt ∧ x5.toInt ≤ 23) from by have h50 : x6.toInt = (y1_4.toInt + 1) := tx6; omega) (show Ch (kF (c 105)) k1.toInt k2.toInt ↔ Ch (kF (c 105)) x5.toInt k2.toInt from hz1_0.trans (by rw [Ch_nx (f := kF (c 105)) (x := y1_3.toInt) (by omega), kF_at (by omega) ex5])) (show x5.toInt = -9 ∨ x5.toInt + x6.toInt ≤ 23 from by have h9 := hs_D y1_3.toNatClampNeg; rw [← ex5, cl_nn (by omega)] at h9; have h8 := tx6; omega) (by have h50 : x6.toInt = (y1_4.toInt + 1) := tx6; omega) _ _ _ hP hS (lv_sub hl [0, 1, 2, 3, 4] rfl)
          · have f4 := (ti_eq (a := y1_3.toInt) (b := k2.toInt) rfl rfl).mp c4
            refine lv_iconst (v := 1) hx hb dX10_kindIs_23 (by decide +kernel) ?_
            exact ro_zret hx hb hr hlocks hS rfl dX10_kindIs_24 ⟨(show 0 ≤ (1 : Int32).toInt ∧ (1 : Int32).toInt ≤ 1 from by decide +kernel), (show Sm (1 : Int32) (Ch (kF (c 105)) k1.toInt k2.toInt) from sm_1 (hz1_0.mpr (by rw [show y1_3.toInt = k2.toInt by omega]; exact Ch_rf)))⟩
  exact lp1 _ (0 : Int32) k1 (show 0 ≤ (0 : Int32).toInt ∧ (0 : Int32).toInt ≤ 24 from by decide +kernel) (show k1.toInt = -9 ∨ (0 ≤ k1.toInt ∧ k1.toInt ≤ 23) from by have h50 : (0 : Int32).toInt = 0 := (by decide +kernel); omega) (show Ch (kF (c 105)) k1.toInt k2.toInt ↔ Ch (kF (c 105)) k1.toInt k2.toInt from Iff.rfl) (show k1.toInt = -9 ∨ k1.toInt + (0 : Int32).toInt ≤ 23 from by have h50 : (0 : Int32).toInt = 0 := (by decide +kernel); omega) (Nat.lt_succ_self _) _ _ _ hP hS (lv_sub hl [0, 1, 2, 3, 4] rfl)

set_option maxHeartbeats 4000000 in
set_option maxRecDepth 100000 in
theorem c_X11_oneIf_e (l : Launch) (D : va_G) (sz : Nat) (z : Int32) : Met l yX11_oneIf wm_X11_oneIf ({ frames := 0, cells := 0, slots := 0, locals := 0 }) (va_Pc [.int z] (pA D sz [] [])) (va_Qi (fun (r : Int32) (_ : Unit) => r = if (¬ z.toInt = 0) then 1 else 0) oA (ro sz)) 0 0 (ro sz) := by
  refine Met.ofW (cc := cX11_oneIf) (maxL := 1) (ret := (some .int)) (by decide +kernel) rfl ?_
  intro p e s m args below meth c s₁ B hml hv
  obtain ⟨rfl, hsz, hP, hK⟩ := hv
  have hx := B.exec
  have hb := B.bytes
  have hr := B.returns
  have hts := atoms_spec (ws := wm_X11_oneIf) B.pre
  have hown : s.vm.findClass RX11 = some m.cls := findClass_of_methodNamed B.named
  have hlocks := B.notSynchronized
  subst hsz
  have hA : ∀ q : Nat, s.heap.size ≤ q → ro s.heap.size q := fun _ h => h
  have hS : va_S (ro s.heap.size) s.heap s.heap [] := va_S.rf
  have hP : va_P D vwCl [] s.heap := hP
  have hl := lv_entry ([.int z]) (n := 1) (Nat.le_of_ble_eq_true rfl)
  rw [lg_entry_eq]
  generalize (lg_sl ([.int z]) ++ List.replicate (1 - (lg_sl ([.int z])).length) Slot.unset).toArray = ls at hl ⊢
  have hl : lv_has ls 1 [(0, .int z)] := hl
  refine lv_iload_n hx hb dX11_oneIf_0 rfl (lv_at hl 0 rfl) ?_
  refine lv_if_eq (tgt := 8) hx hb dX11_oneIf_1 (by decide +kernel) (fun c1 => ?_) (fun c1 => ?_)
  · have f1 := (ti_eq (a := z.toInt) (b := 0) rfl (by decide +kernel)).mp c1
    refine lv_iconst (v := 0) hx hb dX11_oneIf_8 (by decide +kernel) ?_
    exact ro_iret hx hb hr hlocks hS dX11_oneIf_9 (by show _ = _; rw [if_neg (by omega)])
  · have f1 := mt (ti_eq (a := z.toInt) (b := 0) rfl (by decide +kernel)).mpr c1
    refine lv_iconst (v := 1) hx hb dX11_oneIf_4 (by decide +kernel) ?_
    refine lv_goto (tgt := 9) hx hb dX11_oneIf_5 (by decide +kernel) ?_
    exact ro_iret hx hb hr hlocks hS dX11_oneIf_9 (by show _ = _; rw [if_pos (by omega)])

def wm_X11_is_e : List Cond := .code yX11_is cX11_is 3 (some .int) :: ((([.fieldLink RX11 10 "TalePlay" "world" "LTalePlay$World;", .methodLink RX11 109 yX10_hasObject, .instanceMethod yX10_hasObject, .selects RX10 yX10_hasObject yX10_hasObject, .initialized RX10, .code yX10_hasObject cX10_hasObject 2 (some .boolean), .fieldLink RX10 37 "TalePlay$World" "objects" "I", .methodLink RX11 80 yX10_hasKind, .instanceMethod yX10_hasKind, .selects RX10 yX10_hasKind yX10_hasKind, .code yX10_hasKind cX10_hasKind 2 (some .boolean), .fieldLink RX10 33 "TalePlay$World" "kinds" "I", .fieldLink RX11 112 "TalePlay$World" "kindOf" "[I", .methodLink RX11 115 yX10_kindIs, .instanceMethod yX10_kindIs, .selects RX10 yX10_kindIs yX10_kindIs] : List Cond) ++ ([.code yX10_kindIs cX10_kindIs 5 (some .boolean), .fieldLink RX10 9 "TalePlay$World" "parents" "[I", .methodLink RX11 118 yX11_oneIf, .static yX11_oneIf, .initialized RX11, .code yX11_oneIf cX11_oneIf 1 (some .int)] : List Cond)) ++ wsX110 ++ wsX100)
set_option maxRecDepth 20000 in
theorem gm_X11_is_e_X10_hasObject_109 : GoodIn wm_X11_is_e (wsV RX11 109 RX10 yX10_hasObject wm_X10_hasObject) := goodIn_w (List.forall_mem_append.mpr ⟨List.forall_mem_cons.mpr ⟨List.mem_cons_of_mem _ (List.mem_append_left _ (List.mem_append_left _ (List.mem_append_left _ (List.mem_of_getElem? (i := 1) rfl)))), List.forall_mem_cons.mpr ⟨List.mem_cons_of_mem _ (List.mem_append_left _ (List.mem_append_left _ (List.mem_append_left _ (List.mem_of_getElem? (i := 2) rfl)))), List.forall_mem_cons.mpr ⟨List.mem_cons_of_mem _ (List.mem_append_left _ (List.mem_append_left _ (List.mem_append_left _ (List.mem_of_getElem? (i := 3) rfl)))), List.forall_mem_cons.mpr ⟨List.mem_cons_of_mem _ (List.mem_append_left _ (List.mem_append_left _ (List.mem_append_left _ (List.mem_of_getElem? (i := 4) rfl)))), (fun _ h => absurd h List.not_mem_nil)⟩⟩⟩⟩, List.forall_mem_cons.mpr ⟨List.mem_cons_of_mem _ (List.mem_append_left _ (List.mem_append_left _ (List.mem_append_left _ (List.mem_of_getElem? (i := 5) rfl)))), List.forall_mem_append.mpr ⟨List.forall_mem_cons.mpr ⟨List.mem_cons_of_mem _ (List.mem_append_left _ (List.mem_append_left _ (List.mem_append_left _ (List.mem_of_getElem? (i := 6) rfl)))), (fun _ h => absurd h List.not_mem_nil)⟩, (fun _ h => List.mem_cons_of_mem _ (List.mem_append_right _ h))⟩⟩⟩) (by decide +kernel)
set_option maxRecDepth 20000 in
theorem gm_X11_is_e_X10_hasKind_80 : GoodIn wm_X11_is_e (wsV RX11 80 RX10 yX10_hasKind wm_X10_hasKind) := goodIn_w (List.forall_mem_append.mpr ⟨List.forall_mem_cons.mpr ⟨List.mem_cons_of_mem _ (List.mem_append_left _ (List.mem_append_left _ (List.mem_append_left _ (List.mem_of_getElem? (i := 7) rfl)))), List.forall_mem_cons.mpr ⟨List.mem_cons_of_mem _ (List.mem_append_left _ (List.mem_append_left _ (List.mem_append_left _ (List.mem_of_getElem? (i := 8) rfl)))), List.forall_mem_cons.mpr ⟨List.mem_cons_of_mem _ (List.mem_append_left _ (List.mem_append_left _ (List.mem_append_left _ (List.mem_of_getElem? (i := 9) rfl)))), List.forall_mem_cons.mpr ⟨List.mem_cons_of_mem _ (List.mem_append_left _ (List.mem_append_left _ (List.mem_append_left _ (List.mem_of_getElem? (i := 4) rfl)))), (fun _ h => absurd h List.not_mem_nil)⟩⟩⟩⟩, List.forall_mem_cons.mpr ⟨List.mem_cons_of_mem _ (List.mem_append_left _ (List.mem_append_left _ (List.mem_append_left _ (List.mem_of_getElem? (i := 10) rfl)))), List.forall_mem_append.mpr ⟨List.forall_mem_cons.mpr ⟨List.mem_cons_of_mem _ (List.mem_append_left _ (List.mem_append_left _ (List.mem_append_left _ (List.mem_of_getElem? (i := 11) rfl)))), (fun _ h => absurd h List.not_mem_nil)⟩, (fun _ h => List.mem_cons_of_mem _ (List.mem_append_right _ h))⟩⟩⟩) (by decide +kernel)
set_option maxRecDepth 20000 in
theorem gm_X11_is_e_X10_kindIs_e_115 : GoodIn wm_X11_is_e (wsV RX11 115 RX10 yX10_kindIs wm_X10_kindIs_e) := goodIn_w (List.forall_mem_append.mpr ⟨List.forall_mem_cons.mpr ⟨List.mem_cons_of_mem _ (List.mem_append_left _ (List.mem_append_left _ (List.mem_append_left _ (List.mem_of_getElem? (i := 13) rfl)))), List.forall_mem_cons.mpr ⟨List.mem_cons_of_mem _ (List.mem_append_left _ (List.mem_append_left _ (List.mem_append_left _ (List.mem_of_getElem? (i := 14) rfl)))), List.forall_mem_cons.mpr ⟨List.mem_cons_of_mem _ (List.mem_append_left _ (List.mem_append_left _ (List.mem_append_left _ (List.mem_of_getElem? (i := 15) rfl)))), List.forall_mem_cons.mpr ⟨List.mem_cons_of_mem _ (List.mem_append_left _ (List.mem_append_left _ (List.mem_append_left _ (List.mem_of_getElem? (i := 4) rfl)))), (fun _ h => absurd h List.not_mem_nil)⟩⟩⟩⟩, List.forall_mem_cons.mpr ⟨List.mem_cons_of_mem _ (List.mem_append_left _ (List.mem_append_left _ (List.mem_append_right _ (List.mem_of_getElem? (i := 0) rfl)))), List.forall_mem_append.mpr ⟨List.forall_mem_cons.mpr ⟨List.mem_cons_of_mem _ (List.mem_append_left _ (List.mem_append_left _ (List.mem_append_right _ (List.mem_of_getElem? (i := 1) rfl)))), (fun _ h => absurd h List.not_mem_nil)⟩, (fun _ h => List.mem_cons_of_mem _ (List.mem_append_right _ h))⟩⟩⟩) (by decide +kernel)
set_option maxRecDepth 20000 in
theorem gm_X11_is_e_X11_oneIf_118 : GoodIn wm_X11_is_e (va_wsS RX11 118 yX11_oneIf wm_X11_oneIf) := goodIn_w (List.forall_mem_append.mpr ⟨List.forall_mem_cons.mpr ⟨List.mem_cons_of_mem _ (List.mem_append_left _ (List.mem_append_left _ (List.mem_append_right _ (List.mem_of_getElem? (i := 2) rfl)))), List.forall_mem_cons.mpr ⟨List.mem_cons_of_mem _ (List.mem_append_left _ (List.mem_append_left _ (List.mem_append_right _ (List.mem_of_getElem? (i := 3) rfl)))), List.forall_mem_cons.mpr ⟨List.mem_cons_of_mem _ (List.mem_append_left _ (List.mem_append_left _ (List.mem_append_right _ (List.mem_of_getElem? (i := 4) rfl)))), (fun _ h => absurd h List.not_mem_nil)⟩⟩⟩, List.forall_mem_cons.mpr ⟨List.mem_cons_of_mem _ (List.mem_append_left _ (List.mem_append_left _ (List.mem_append_right _ (List.mem_of_getElem? (i := 5) rfl)))), (fun _ h => absurd h List.not_mem_nil)⟩⟩) (by decide +kernel)
set_option maxHeartbeats 4000000 in
set_option maxRecDepth 100000 in
theorem x_X11_is_e (l : Launch) (D : va_G) (sz : Nat) (sk : Value) (a : Nat → Nat) (t : Nat → ClassId) (i : Nat → Int32) (q : Int64) (c : Nat → Nat → Int32) (d : Nat → Nat → Int64) (w : Int32) (k1 : Int32) (hI : xInv i c) (hs_D : PD (c 105)) : Met l yX11_is wm_X11_is_e ({ frames := 1, cells := 0, slots := 0, locals := 24 }) (va_Pc [.ref (a 100), .int w, .int k1] (yA (a 186) D sz (xwT sk a t i q c d) (xtT t))) (va_Qi (fun (r : Int32) (_ : Unit) => (True ∧ (IsR (c 105) (c 108) w k1 (i 111).toInt (i 110).toInt r))) oA (ro sz)) 0 0 (ro sz) := by
  refine Met.ofW (cc := cX11_is) (maxL := 3) (ret := (some .int)) (by decide +kernel) rfl ?_
  intro p e s m args below meth cd s₁ B hml hv
  obtain ⟨rfl, ⟨hsz, hP, hK⟩, hN, hZ⟩ := hv
  have hx := B.exec
  have hb := B.bytes
  have hr := B.returns
  have hts := atoms_spec (ws := wm_X11_is_e) B.pre
  have hown : s.vm.findClass RX11 = some m.cls := findClass_of_methodNamed B.named
  have hlocks := B.notSynchronized
  subst hsz
  have hA : ∀ q : Nat, s.heap.size ≤ q → ro s.heap.size q := fun _ h => h
  have hS : va_S (ro s.heap.size) s.heap s.heap [] := va_S.rf
  have hl := lv_entry ([.ref (a 100), .int w, .int k1]) (n := 3) (Nat.le_of_ble_eq_true rfl)
  rw [lg_entry_eq]
  generalize (lg_sl ([.ref (a 100), .int w, .int k1]) ++ List.replicate (3 - (lg_sl ([.ref (a 100), .int w, .int k1])).length) Slot.unset).toArray = ls at hl ⊢
  have hl : lv_has ls 3 [(0, .ref (a 100)), (1, .int w), (2, .int k1)] := hl
  have rb110_i : 6 ≤ (i 110).toInt ∧ (i 110).toInt ≤ 24 := hI.1 110
  have rb111_i : 0 ≤ (i 111).toInt ∧ (i 111).toInt ≤ 30 := hI.1 111
  refine lv_aload_n hx hb dX11_is_0 rfl (lv_at hl 0 rfl) ?_
  refine xgT_X_world hx hb hts (fun _ h => List.mem_cons_of_mem _ (List.mem_append_left _ (List.mem_append_right _ h))) hown hK hP (hts (.fieldLink RX11 10 "TalePlay" "world" "LTalePlay$World;") (List.mem_cons_of_mem _ (List.mem_append_left _ (List.mem_append_left _ (List.mem_append_left _ (List.mem_of_getElem? (i := 0) rfl)))))) dX11_is_1 ?_
  refine lv_iload_n hx hb dX11_is_4 rfl (lv_at hl 1 rfl) ?_
  refine ro_calli (va_runV (As := [.int w]) (rest := []) ⟨hx, hb, hml, hown, hts⟩ (x_X10_hasObject l D s.heap.size .null a t i q c d w hI ) (cwV 1 hts gm_X11_is_e_X10_hasObject_109 rfl rfl rfl (by decide +kernel) ⟨Nat.le_of_ble_eq_true rfl, Nat.le_of_ble_eq_true rfl⟩) (yA_V hN (xZ_k hZ hS hA) (xkT_W hK) (xuT_W (sk := sk) hP) (ci := 10) (q0 := 0) rfl rfl) rfl rfl hl.1 rfl (lv_room (Nat.le_of_ble_eq_true rfl)) dX11_is_5 ⟨Nat.le_of_ble_eq_true rfl, Nat.le_of_ble_eq_true rfl⟩) hS hA hP (fun r1 u1 H locs hw1 hP hS => ?_)
  have hw1 : r1 = if (0 ≤ w.toInt ∧ w.toInt < (i 111).toInt) then 1 else 0 := hw1
  refine lv_if_eq (tgt := 22) hx hb dX11_is_8 (by decide +kernel) (fun c2 => ?_) (fun c2 => ?_)
  · have f2 := fl_f hw1 c2
    refine lv_iconst (v := (-1)) hx hb dX11_is_22 (by decide +kernel) ?_
    exact ro_iret hx hb hr hlocks hS dX11_is_23 ⟨trivial, (show IsR (c 105) (c 108) w k1 (i 111).toInt (i 110).toInt ((-1) : Int32) from Or.inl ⟨by omega, by decide⟩)⟩
  · have f2 := fl_t hw1 c2
    refine lv_aload_n hx hb dX11_is_11 rfl (lv_at hl 0 rfl) ?_
    refine xgT_X_world hx hb hts (fun _ h => List.mem_cons_of_mem _ (List.mem_append_left _ (List.mem_append_right _ h))) hown hK hP (hts (.fieldLink RX11 10 "TalePlay" "world" "LTalePlay$World;") (List.mem_cons_of_mem _ (List.mem_append_left _ (List.mem_append_left _ (List.mem_append_left _ (List.mem_of_getElem? (i := 0) rfl)))))) dX11_is_12 ?_
    refine lv_iload_n hx hb dX11_is_15 rfl (lv_at hl 2 rfl) ?_
    refine ro_calli (va_runV (As := [.int k1]) (rest := []) ⟨hx, hb, hml, hown, hts⟩ (x_X10_hasKind l D H.size .null a t i q c d k1 hI ) (cwV 1 hts gm_X11_is_e_X10_hasKind_80 rfl rfl rfl (by decide +kernel) ⟨Nat.le_of_ble_eq_true rfl, Nat.le_of_ble_eq_true rfl⟩) (yA_V hN (xZ_k hZ hS hA) (xkT_W hK) (xuT_W (sk := sk) hP) (ci := 10) (q0 := 0) rfl rfl) rfl rfl hl.1 rfl (lv_room (Nat.le_of_ble_eq_true rfl)) dX11_is_16 ⟨Nat.le_of_ble_eq_true rfl, Nat.le_of_ble_eq_true rfl⟩) hS hA hP (fun r3 u3 H locs hw3 hP hS => ?_)
    have hw3 : r3 = if (0 ≤ k1.toInt ∧ k1.toInt < (i 110).toInt) then 1 else 0 := hw3
    refine lv_if_ne (tgt := 24) hx hb dX11_is_19 (by decide +kernel) (fun c4 => ?_) (fun c4 => ?_)
    · have f4 := fl_t hw3 c4
      refine lv_aload_n hx hb dX11_is_24 rfl (lv_at hl 0 rfl) ?_
      refine xgT_X_world hx hb hts (fun _ h => List.mem_cons_of_mem _ (List.mem_append_left _ (List.mem_append_right _ h))) hown hK hP (hts (.fieldLink RX11 10 "TalePlay" "world" "LTalePlay$World;") (List.mem_cons_of_mem _ (List.mem_append_left _ (List.mem_append_left _ (List.mem_append_left _ (List.mem_of_getElem? (i := 0) rfl)))))) dX11_is_25 ?_
      refine lv_aload_n hx hb dX11_is_28 rfl (lv_at hl 0 rfl) ?_
      refine xgT_X_world hx hb hts (fun _ h => List.mem_cons_of_mem _ (List.mem_append_left _ (List.mem_append_right _ h))) hown hK hP (hts (.fieldLink RX11 10 "TalePlay" "world" "LTalePlay$World;") (List.mem_cons_of_mem _ (List.mem_append_left _ (List.mem_append_left _ (List.mem_append_left _ (List.mem_of_getElem? (i := 0) rfl)))))) dX11_is_29 ?_
      refine xgT_W_kindOf hx hb hts (fun _ h => List.mem_cons_of_mem _ (List.mem_append_right _ h)) hown hK hP (hts (.fieldLink RX11 112 "TalePlay$World" "kindOf" "[I") (List.mem_cons_of_mem _ (List.mem_append_left _ (List.mem_append_left _ (List.mem_append_left _ (List.mem_of_getElem? (i := 12) rfl)))))) dX11_is_32 ?_
      refine lv_iload_n hx hb dX11_is_35 rfl (lv_at hl 1 rfl) ?_
      refine xlT_108 hx hb hK hP (vp_in_iff.mpr (by have h9 : w.toInt = w.toInt := rfl; omega)) dX11_is_36 (fun x5 ex5 => ?_)
      have rx5 : 0 ≤ x5.toInt ∧ x5.toInt ≤ 23 := by rw [ex5]; exact hI.2 108 _
      refine lv_iload_n hx hb dX11_is_37 rfl (lv_at hl 2 rfl) ?_
      refine ro_calli (va_runV (As := [.int x5, .int k1]) (rest := []) ⟨hx, hb, hml, hown, hts⟩ (x_X10_kindIs_e l D H.size .null a t i q c d x5 k1 hI (show 0 ≤ x5.toInt ∧ x5.toInt ≤ 23 from by omega) (show 0 ≤ k1.toInt from by omega) hs_D) (cwV 2 hts gm_X11_is_e_X10_kindIs_e_115 rfl rfl rfl (by decide +kernel) ⟨Nat.le_of_ble_eq_true rfl, Nat.le_of_ble_eq_true rfl⟩) (yA_V hN (xZ_k hZ hS hA) (xkT_W hK) (xuT_W (sk := sk) hP) (ci := 10) (q0 := 0) rfl rfl) rfl rfl hl.1 rfl (lv_room (Nat.le_of_ble_eq_true rfl)) dX11_is_38 ⟨Nat.le_of_ble_eq_true rfl, Nat.le_of_ble_eq_true rfl⟩) hS hA hP (fun r6 u6 H locs hw6 hP hS => ?_)
      have hw6 : ((0 ≤ r6.toInt ∧ r6.toInt ≤ 1) ∧ (Sm r6 (Ch (kF (c 105)) x5.toInt k1.toInt))) := hw6
      obtain ⟨hw6, hr6_0⟩ := hw6
      have hr6_0 : Sm r6 (Ch (kF (c 105)) x5.toInt k1.toInt) := hr6_0
      have hPc := hP.sub (ws' := []) [] rfl
      have hKc := hK.sub (tys' := []) [] rfl
      refine ro_calli (va_runS (As := [.int r6]) (rest := []) ⟨hx, hb, hml, hown, hts⟩ (c_X11_oneIf_e l D H.size r6) (va_cwS 1 hts gm_X11_is_e_X11_oneIf_118 rfl rfl rfl (by decide +kernel) ⟨Nat.le_of_ble_eq_true rfl, Nat.le_of_ble_eq_true rfl⟩) (pA_S hKc hPc) rfl rfl hl.1 rfl (lv_room (Nat.le_of_ble_eq_true rfl)) dX11_is_41 ⟨Nat.le_of_ble_eq_true rfl, Nat.le_of_ble_eq_true rfl⟩) hS hA hP (fun r8 u8 H locs hw8 hP hS => ?_)
      have hw8 : r8 = if (¬ r6.toInt = 0) then 1 else 0 := hw8
      exact ro_iret hx hb hr hlocks hS dX11_is_44 ⟨trivial, (show IsR (c 105) (c 108) w k1 (i 111).toInt (i 110).toInt r8 from Or.inr ⟨by omega, by have h9 := hr6_0; rw [ex5] at h9; exact sm_fl hw8 h9⟩)⟩
    · have f4 := fl_f hw3 c4
      refine lv_iconst (v := (-1)) hx hb dX11_is_22 (by decide +kernel) ?_
      exact ro_iret hx hb hr hlocks hS dX11_is_23 ⟨trivial, (show IsR (c 105) (c 108) w k1 (i 111).toInt (i 110).toInt ((-1) : Int32) from Or.inl ⟨by omega, by decide⟩)⟩

set_option maxHeartbeats 4000000 in
set_option maxRecDepth 100000 in
theorem s_X12_is_e (l : Launch) (D : va_G) (sz : Nat) (o : Nat) (a : Nat → Nat) (t : Nat → ClassId) (i : Nat → Int32) (q : Int64) (c : Nat → Nat → Int32) (d : Nat → Nat → Int64) (w : Int32) (k1 : Int32) (hI : mInv i c) : Met l yX12_is wm_X12_is ({ frames := 2, cells := 0, slots := 0, locals := 46 }) (va_Pc [.ref o, .int w, .int k1] (pA D sz (mW o a t i q c d) (mT t))) (va_Qi (fun (r : Int32) (_ : Unit) => (True ∧ (IsR (c 3) (c 6) w k1 (i 5).toInt (i 2).toInt r))) oA (ro sz)) 0 0 (ro sz) := by
  refine Met.ofW (cc := cX12_is) (maxL := 3) (ret := (some .int)) (by decide +kernel) rfl ?_
  intro p e s m args below meth cd s₁ B hml hv
  obtain ⟨rfl, hsz, hP, hK⟩ := hv
  have hx := B.exec
  have hb := B.bytes
  have hr := B.returns
  have hts := atoms_spec (ws := wm_X12_is) B.pre
  have hown : s.vm.findClass RX12 = some m.cls := findClass_of_methodNamed B.named
  have hlocks := B.notSynchronized
  subst hsz
  have hA : ∀ q : Nat, s.heap.size ≤ q → ro s.heap.size q := fun _ h => h
  have hS : va_S (ro s.heap.size) s.heap s.heap [] := va_S.rf
  have hl := lv_entry ([.ref o, .int w, .int k1]) (n := 3) (Nat.le_of_ble_eq_true rfl)
  rw [lg_entry_eq]
  generalize (lg_sl ([.ref o, .int w, .int k1]) ++ List.replicate (3 - (lg_sl ([.ref o, .int w, .int k1])).length) Slot.unset).toArray = ls at hl ⊢
  have hl : lv_has ls 3 [(0, .ref o), (1, .int w), (2, .int k1)] := hl
  have rb2_i : 6 ≤ (i 2).toInt ∧ (i 2).toInt ≤ 24 := hI.1 2
  have rb5_i : 0 ≤ (i 5).toInt ∧ (i 5).toInt ≤ 30 := hI.1 5
  refine lv_aload_n hx hb dX12_is_0 rfl (lv_at hl 0 rfl) ?_
  refine lv_iload_n hx hb dX12_is_1 rfl (lv_at hl 1 rfl) ?_
  refine ro_calli (va_runV (As := [.int w]) (rest := []) ⟨hx, hb, hml, hown, hts⟩ (s_X12_isObject l D s.heap.size o a t i q c d w hI ) (cwV 1 hts gm_X12_is_X12_isObject rfl rfl rfl (by decide +kernel) ⟨Nat.le_of_ble_eq_true rfl, Nat.le_of_ble_eq_true rfl⟩) (pA_V hK hP (ci := 12) (q0 := 0) rfl rfl) rfl rfl hl.1 rfl (lv_room (Nat.le_of_ble_eq_true rfl)) dX12_is_2 ⟨Nat.le_of_ble_eq_true rfl, Nat.le_of_ble_eq_true rfl⟩) hS hA hP (fun r1 u1 H locs hw1 hP hS => ?_)
  have hw1 : r1 = if (0 ≤ w.toInt ∧ w.toInt ≤ (i 5).toInt - 1) then 1 else 0 := hw1
  refine lv_if_eq (tgt := 24) hx hb dX12_is_5 (by decide +kernel) (fun c2 => ?_) (fun c2 => ?_)
  · have f2 := fl_f hw1 c2
    refine lv_iconst (v := (-1)) hx hb dX12_is_24 (by decide +kernel) ?_
    refine lv_goto (tgt := 42) hx hb dX12_is_25 (by decide +kernel) ?_
    exact ro_iret hx hb hr hlocks hS dX12_is_42 ⟨trivial, (show IsR (c 3) (c 6) w k1 (i 5).toInt (i 2).toInt ((-1) : Int32) from Or.inl ⟨by omega, by decide⟩)⟩
  · have f2 := fl_t hw1 c2
    refine lv_iload_n hx hb dX12_is_8 rfl (lv_at hl 2 rfl) ?_
    refine lv_i2l (v := k1.toInt64) hx hb dX12_is_9 rfl ?_
    refine lv_lconst (v := 0) hx hb dX12_is_10 (by decide +kernel) ?_
    refine lv_aload_n hx hb dX12_is_11 rfl (lv_at hl 0 rfl) ?_
    refine mget_2 (v := (i 2)) rfl hx hb hts (fun _ h => List.mem_cons_of_mem _ (List.mem_append_right _ h)) hown hK hP (hts (.fieldLink RX12 151 "TalePlayModel" "kinds" "I") (List.mem_cons_of_mem _ (List.mem_append_left _ (List.mem_of_getElem? (i := 9) rfl)))) dX12_is_12 ?_
    refine lv_iconst (v := 1) hx hb dX12_is_15 (by decide +kernel) ?_
    refine lv_isub hx hb dX12_is_16 ?_
    refine lv_topi (fun x3 ex3 => ?_)
    have tx3 := ti_sub (a := (i 2).toInt) (b := 1) ex3 rfl (by decide +kernel) (by omega) (by omega)
    refine lv_i2l (v := x3.toInt64) hx hb dX12_is_17 rfl ?_
    have hPc := hP.sub (ws' := []) [] rfl
    have hKc := hK.sub (tys' := []) [] rfl
    refine ro_calli (va_runS (As := [.long k1.toInt64, .long 0, .long x3.toInt64]) (rest := []) ⟨hx, hb, hml, hown, hts⟩ (c_X12_in l D H.size k1.toInt64 0 x3.toInt64 k1.toInt 0 ((i 2).toInt - 1) ((Int32.toInt_toInt64 k1).trans rfl) (by decide +kernel) ((Int32.toInt_toInt64 x3).trans tx3)) (va_cwS 3 hts gm_X12_is_X12_in rfl rfl rfl (by decide +kernel) ⟨Nat.le_of_ble_eq_true rfl, Nat.le_of_ble_eq_true rfl⟩) (pA_S hKc hPc) rfl rfl hl.1 rfl (lv_room (Nat.le_of_ble_eq_true rfl)) dX12_is_18 ⟨Nat.le_of_ble_eq_true rfl, Nat.le_of_ble_eq_true rfl⟩) hS hA hP (fun r4 u4 H locs hw4 hP hS => ?_)
    have hw4 : r4 = if (0 ≤ k1.toInt ∧ k1.toInt ≤ ((i 2).toInt - 1)) then 1 else 0 := hw4
    refine lv_if_ne (tgt := 28) hx hb dX12_is_21 (by decide +kernel) (fun c5 => ?_) (fun c5 => ?_)
    · have f5 := fl_t hw4 c5
      refine lv_aload_n hx hb dX12_is_28 rfl (lv_at hl 0 rfl) ?_
      refine lv_iload_n hx hb dX12_is_29 rfl (lv_at hl 1 rfl) ?_
      refine lv_iload_n hx hb dX12_is_30 rfl (lv_at hl 2 rfl) ?_
      refine ro_calli (va_runV (As := [.int w, .int k1]) (rest := []) ⟨hx, hb, hml, hown, hts⟩ (s_X12_isOf l D H.size o a t i q c d w k1 hI (show 0 ≤ w.toInt ∧ w.toInt ≤ 29 from by omega) (show 0 ≤ k1.toInt from by omega)) (cwV 2 hts gm_X12_is_X12_isOf rfl rfl rfl (by decide +kernel) ⟨Nat.le_of_ble_eq_true rfl, Nat.le_of_ble_eq_true rfl⟩) (pA_V hK hP (ci := 12) (q0 := 0) rfl rfl) rfl rfl hl.1 rfl (lv_room (Nat.le_of_ble_eq_true rfl)) dX12_is_31 ⟨Nat.le_of_ble_eq_true rfl, Nat.le_of_ble_eq_true rfl⟩) hS hA hP (fun r6 u6 H locs hw6 hP hS => ?_)
      have hw6 : ((0 ≤ r6.toInt ∧ r6.toInt ≤ 1) ∧ (Sm r6 (Kd (c 3) (c 6) w.toInt k1.toInt))) := hw6
      obtain ⟨hw6, hr6_0⟩ := hw6
      have hr6_0 : Sm r6 (Kd (c 3) (c 6) w.toInt k1.toInt) := hr6_0
      refine lv_if_eq (tgt := 41) hx hb dX12_is_34 (by decide +kernel) (fun c7 => ?_) (fun c7 => ?_)
      · have f7 := (ti_eq (a := r6.toInt) (b := 0) rfl (by decide +kernel)).mp c7
        have s7 := sm_f hr6_0 c7
        refine lv_iconst (v := 0) hx hb dX12_is_41 (by decide +kernel) ?_
        exact ro_iret hx hb hr hlocks hS dX12_is_42 ⟨trivial, (show IsR (c 3) (c 6) w k1 (i 5).toInt (i 2).toInt (0 : Int32) from Or.inr ⟨by omega, sm_0 s7⟩)⟩
      · have f7 := mt (ti_eq (a := r6.toInt) (b := 0) rfl (by decide +kernel)).mpr c7
        have s7 := sm_t hr6_0 c7
        refine lv_iconst (v := 1) hx hb dX12_is_37 (by decide +kernel) ?_
        refine lv_goto (tgt := 42) hx hb dX12_is_38 (by decide +kernel) ?_
        exact ro_iret hx hb hr hlocks hS dX12_is_42 ⟨trivial, (show IsR (c 3) (c 6) w k1 (i 5).toInt (i 2).toInt (1 : Int32) from Or.inr ⟨by omega, sm_1 s7⟩)⟩
    · have f5 := fl_f hw4 c5
      refine lv_iconst (v := (-1)) hx hb dX12_is_24 (by decide +kernel) ?_
      refine lv_goto (tgt := 42) hx hb dX12_is_25 (by decide +kernel) ?_
      exact ro_iret hx hb hr hlocks hS dX12_is_42 ⟨trivial, (show IsR (c 3) (c 6) w k1 (i 5).toInt (i 2).toInt ((-1) : Int32) from Or.inl ⟨by omega, by decide⟩)⟩

def wm_X10_isOfSort_e : List Cond := .code yX10_isOfSort cX10_isOfSort 4 (some .boolean) :: (([.methodLink RX10 40 yX10_sortOf, .instanceMethod yX10_sortOf, .selects RX10 yX10_sortOf yX10_sortOf, .initialized RX10, .code yX10_sortOf cX10_sortOf 2 (some .int), .fieldLink RX10 37 "TalePlay$World" "objects" "I", .fieldLink RX10 15 "TalePlay$World" "sorts" "[I", .fieldLink RX10 21 "TalePlay$World" "kindOf" "[I"] : List Cond) ++ wsX100)
set_option maxRecDepth 20000 in
theorem gm_X10_isOfSort_e_X10_sortOf_e_40 : GoodIn wm_X10_isOfSort_e (wsV RX10 40 RX10 yX10_sortOf wm_X10_sortOf_e) := goodIn_w (List.forall_mem_append.mpr ⟨List.forall_mem_cons.mpr ⟨List.mem_cons_of_mem _ (List.mem_append_left _ (List.mem_of_getElem? (i := 0) rfl)), List.forall_mem_cons.mpr ⟨List.mem_cons_of_mem _ (List.mem_append_left _ (List.mem_of_getElem? (i := 1) rfl)), List.forall_mem_cons.mpr ⟨List.mem_cons_of_mem _ (List.mem_append_left _ (List.mem_of_getElem? (i := 2) rfl)), List.forall_mem_cons.mpr ⟨List.mem_cons_of_mem _ (List.mem_append_left _ (List.mem_of_getElem? (i := 3) rfl)), (fun _ h => absurd h List.not_mem_nil)⟩⟩⟩⟩, List.forall_mem_cons.mpr ⟨List.mem_cons_of_mem _ (List.mem_append_left _ (List.mem_of_getElem? (i := 4) rfl)), List.forall_mem_append.mpr ⟨List.forall_mem_cons.mpr ⟨List.mem_cons_of_mem _ (List.mem_append_left _ (List.mem_of_getElem? (i := 5) rfl)), List.forall_mem_cons.mpr ⟨List.mem_cons_of_mem _ (List.mem_append_left _ (List.mem_of_getElem? (i := 6) rfl)), List.forall_mem_cons.mpr ⟨List.mem_cons_of_mem _ (List.mem_append_left _ (List.mem_of_getElem? (i := 7) rfl)), (fun _ h => absurd h List.not_mem_nil)⟩⟩⟩, (fun _ h => List.mem_cons_of_mem _ (List.mem_append_right _ h))⟩⟩⟩) (by decide +kernel)
set_option maxHeartbeats 4000000 in
set_option maxRecDepth 100000 in
theorem x_X10_isOfSort_e (l : Launch) (D : va_G) (sz : Nat) (sk : Value) (a : Nat → Nat) (t : Nat → ClassId) (i : Nat → Int32) (q : Int64) (c : Nat → Nat → Int32) (d : Nat → Nat → Int64) (w : Int32) (s1 : Int32) (hI : xInv i c) (hw0 : 0 ≤ w.toInt ∧ w.toInt < (i 111).toInt) : Met l yX10_isOfSort wm_X10_isOfSort_e ({ frames := 1, cells := 0, slots := 0, locals := 21 }) (va_Pc [.ref (a 104), .int w, .int s1] (yA (a 186) D sz (xwW sk a t i q c d) (xtW t))) (va_Qi (fun (r : Int32) (_ : Unit) => ((r.toInt = 1 ∧ ((c 106 (c 108 w.toInt.toNat).toNatClampNeg).toInt = s1.toInt ∨ (s1.toInt = 1 ∧ 1 < (c 106 (c 108 w.toInt.toNat).toNatClampNeg).toInt))) ∨ (r.toInt = 0 ∧ ¬ ((c 106 (c 108 w.toInt.toNat).toNatClampNeg).toInt = s1.toInt ∨ (s1.toInt = 1 ∧ 1 < (c 106 (c 108 w.toInt.toNat).toNatClampNeg).toInt))))) oA (ro sz)) 0 0 (ro sz) := by
  refine Met.ofW (cc := cX10_isOfSort) (maxL := 4) (ret := (some .boolean)) (by decide +kernel) rfl ?_
  intro p e s m args below meth cd s₁ B hml hv
  obtain ⟨rfl, ⟨hsz, hP, hK⟩, hN, hZ⟩ := hv
  have hx := B.exec
  have hb := B.bytes
  have hr := B.returns
  have hts := atoms_spec (ws := wm_X10_isOfSort_e) B.pre
  have hown : s.vm.findClass RX10 = some m.cls := findClass_of_methodNamed B.named
  have hlocks := B.notSynchronized
  subst hsz
  have hA : ∀ q : Nat, s.heap.size ≤ q → ro s.heap.size q := fun _ h => h
  have hS : va_S (ro s.heap.size) s.heap s.heap [] := va_S.rf
  have hl := lv_entry ([.ref (a 104), .int w, .int s1]) (n := 4) (Nat.le_of_ble_eq_true rfl)
  rw [lg_entry_eq]
  generalize (lg_sl ([.ref (a 104), .int w, .int s1]) ++ List.replicate (4 - (lg_sl ([.ref (a 104), .int w, .int s1])).length) Slot.unset).toArray = ls at hl ⊢
  have hl : lv_has ls 4 [(0, .ref (a 104)), (1, .int w), (2, .int s1)] := hl
  have rb111_i : 0 ≤ (i 111).toInt ∧ (i 111).toInt ≤ 30 := hI.1 111
  refine lv_aload_n hx hb dX10_isOfSort_0 rfl (lv_at hl 0 rfl) ?_
  refine lv_iload_n hx hb dX10_isOfSort_1 rfl (lv_at hl 1 rfl) ?_
  refine ro_calli (va_runV (As := [.int w]) (rest := []) ⟨hx, hb, hml, hown, hts⟩ (x_X10_sortOf_e l D s.heap.size .null a t i q c d w hI ) (cwV 1 hts gm_X10_isOfSort_e_X10_sortOf_e_40 rfl rfl rfl (by decide +kernel) ⟨Nat.le_of_ble_eq_true rfl, Nat.le_of_ble_eq_true rfl⟩) (yA_V hN (xZ_k hZ hS hA) hK hP (ci := 10) (q0 := 0) rfl rfl) rfl rfl hl.1 rfl (lv_room (Nat.le_of_ble_eq_true rfl)) dX10_isOfSort_2 ⟨Nat.le_of_ble_eq_true rfl, Nat.le_of_ble_eq_true rfl⟩) hS hA hP (fun r1 u1 H locs hw1 hP hS => ?_)
  have hw1 : (((r1.toInt = -9 ∧ ¬ (0 ≤ w.toInt ∧ w.toInt < (i 111).toInt)) ∨ (0 ≤ r1.toInt ∧ r1.toInt ≤ 5 ∧ 0 ≤ w.toInt ∧ w.toInt < (i 111).toInt)) ∧ (SO (c 106) (c 108) (i 111).toInt w.toInt r1.toInt)) := hw1
  obtain ⟨hw1, hr1_0⟩ := hw1
  have hr1_0 : SO (c 106) (c 108) (i 111).toInt w.toInt r1.toInt := hr1_0
  have how : r1.toInt = (c 106 (c 108 w.toInt.toNat).toNatClampNeg).toInt := by rcases hr1_0 with h9 | h9; (· exact h9.2.2); (· exfalso; omega)
  refine lv_istore_n (lv' := [(3, .int r1), (0, .ref (a 104)), (1, .int w), (2, .int s1)]) hx hb dX10_isOfSort_5 rfl hl (by decide +kernel) rfl (fun ls hl => ?_)
  refine lv_iload_n hx hb dX10_isOfSort_6 rfl (lv_at hl 0 rfl) ?_
  refine lv_iload_n hx hb dX10_isOfSort_7 rfl (lv_at hl 3 rfl) ?_
  refine lv_icmp_eq (tgt := 21) hx hb dX10_isOfSort_8 (by decide +kernel) (fun c2 => ?_) (fun c2 => ?_)
  · have f2 := (ti_eq (a := r1.toInt) (b := s1.toInt) rfl rfl).mp c2
    refine lv_iconst (v := 1) hx hb dX10_isOfSort_21 (by decide +kernel) ?_
    refine lv_goto (tgt := 26) hx hb dX10_isOfSort_22 (by decide +kernel) ?_
    exact ro_zret hx hb hr hlocks hS rfl dX10_isOfSort_26 (show ((1 : Int32).toInt = 1 ∧ ((c 106 (c 108 w.toInt.toNat).toNatClampNeg).toInt = s1.toInt ∨ (s1.toInt = 1 ∧ 1 < (c 106 (c 108 w.toInt.toNat).toNatClampNeg).toInt))) ∨ ((1 : Int32).toInt = 0 ∧ ¬ ((c 106 (c 108 w.toInt.toNat).toNatClampNeg).toInt = s1.toInt ∨ (s1.toInt = 1 ∧ 1 < (c 106 (c 108 w.toInt.toNat).toNatClampNeg).toInt))) from by have h9 : (1 : Int32).toInt = 1 := (by decide +kernel); omega)
  · have f2 := mt (ti_eq (a := r1.toInt) (b := s1.toInt) rfl rfl).mpr c2
    refine lv_iload_n hx hb dX10_isOfSort_11 rfl (lv_at hl 3 rfl) ?_
    refine lv_iconst (v := 1) hx hb dX10_isOfSort_12 (by decide +kernel) ?_
    refine lv_icmp_ne (tgt := 25) hx hb dX10_isOfSort_13 (by decide +kernel) (fun c3 => ?_) (fun c3 => ?_)
    · have f3 := mt (ti_eq (a := s1.toInt) (b := 1) rfl (by decide +kernel)).mpr c3
      refine lv_iconst (v := 0) hx hb dX10_isOfSort_25 (by decide +kernel) ?_
      exact ro_zret hx hb hr hlocks hS rfl dX10_isOfSort_26 (show ((0 : Int32).toInt = 1 ∧ ((c 106 (c 108 w.toInt.toNat).toNatClampNeg).toInt = s1.toInt ∨ (s1.toInt = 1 ∧ 1 < (c 106 (c 108 w.toInt.toNat).toNatClampNeg).toInt))) ∨ ((0 : Int32).toInt = 0 ∧ ¬ ((c 106 (c 108 w.toInt.toNat).toNatClampNeg).toInt = s1.toInt ∨ (s1.toInt = 1 ∧ 1 < (c 106 (c 108 w.toInt.toNat).toNatClampNeg).toInt))) from by have h9 : (0 : Int32).toInt = 0 := (by decide +kernel); omega)
    · have f3 := (ti_eq (a := s1.toInt) (b := 1) rfl (by decide +kernel)).mp c3
      refine lv_iload_n hx hb dX10_isOfSort_16 rfl (lv_at hl 0 rfl) ?_
      refine lv_iconst (v := 1) hx hb dX10_isOfSort_17 (by decide +kernel) ?_
      refine lv_icmp_le (tgt := 25) hx hb dX10_isOfSort_18 (by decide +kernel) (fun c4 => ?_) (fun c4 => ?_)
      · have f4 := (ti_le (a := r1.toInt) (b := 1) rfl (by decide +kernel)).mp c4
        refine lv_iconst (v := 0) hx hb dX10_isOfSort_25 (by decide +kernel) ?_
        exact ro_zret hx hb hr hlocks hS rfl dX10_isOfSort_26 (show ((0 : Int32).toInt = 1 ∧ ((c 106 (c 108 w.toInt.toNat).toNatClampNeg).toInt = s1.toInt ∨ (s1.toInt = 1 ∧ 1 < (c 106 (c 108 w.toInt.toNat).toNatClampNeg).toInt))) ∨ ((0 : Int32).toInt = 0 ∧ ¬ ((c 106 (c 108 w.toInt.toNat).toNatClampNeg).toInt = s1.toInt ∨ (s1.toInt = 1 ∧ 1 < (c 106 (c 108 w.toInt.toNat).toNatClampNeg).toInt))) from by have h9 : (0 : Int32).toInt = 0 := (by decide +kernel); omega)
      · have f4 := mt (ti_le (a := r1.toInt) (b := 1) rfl (by decide +kernel)).mpr c4
        refine lv_iconst (v := 1) hx hb dX10_isOfSort_21 (by decide +kernel) ?_
        refine lv_goto (tgt := 26) hx hb dX10_isOfSort_22 (by decide +kernel) ?_
        exact ro_zret hx hb hr hlocks hS rfl dX10_isOfSort_26 (show ((1 : Int32).toInt = 1 ∧ ((c 106 (c 108 w.toInt.toNat).toNatClampNeg).toInt = s1.toInt ∨ (s1.toInt = 1 ∧ 1 < (c 106 (c 108 w.toInt.toNat).toNatClampNeg).toInt))) ∨ ((1 : Int32).toInt = 0 ∧ ¬ ((c 106 (c 108 w.toInt.toNat).toNatClampNeg).toInt = s1.toInt ∨ (s1.toInt = 1 ∧ 1 < (c 106 (c 108 w.toInt.toNat).toNatClampNeg).toInt))) from by have h9 : (1 : Int32).toInt = 1 := (by decide +kernel); omega)

def wm_X11_role_e : List Cond := .code yX11_role cX11_role 4 (some .int) :: ((([.fieldLink RX11 60 "TalePlay" "casts" "LTalePlay$Casts;", .fieldLink RX11 334 "TalePlay$Casts" "made" "I", .methodLink RX11 91 yX11_isBelow, .static yX11_isBelow, .initialized RX11, .code yX11_isBelow cX11_isBelow 2 (some .boolean), .fieldLink RX11 340 "TalePlay$Casts" "lengths" "[I", .fieldLink RX11 347 "TalePlay$Casts" "roles" "[I", .fieldLink RX11 10 "TalePlay" "world" "LTalePlay$World;", .fieldLink RX11 343 "TalePlay$Casts" "sorts" "[I", .methodLink RX11 344 yX10_isOfSort, .instanceMethod yX10_isOfSort, .selects RX10 yX10_isOfSort yX10_isOfSort, .initialized RX10, .code yX10_isOfSort cX10_isOfSort 4 (some .boolean), .methodLink RX10 40 yX10_sortOf] : List Cond) ++ (([.instanceMethod yX10_sortOf, .selects RX10 yX10_sortOf yX10_sortOf, .code yX10_sortOf cX10_sortOf 2 (some .int), .fieldLink RX10 37 "TalePlay$World" "objects" "I", .fieldLink RX10 15 "TalePlay$World" "sorts" "[I", .fieldLink RX10 21 "TalePlay$World" "kindOf" "[I", .methodLink RX11 128 yX11_answerFinding, .instanceMethod yX11_answerFinding, .selects RX11 yX11_answerFinding yX11_answerFinding, .code yX11_answerFinding cX11_answerFinding 2 (some .int), .fieldLink RX11 72 "TalePlay" "latestFinding" "I", .fieldLink RX11 68 "TalePlay" "findingCounts" "[I", .methodLink RX11 125 yX10_sortOf, .methodLink RX11 109 yX10_hasObject, .instanceMethod yX10_hasObject, .selects RX10 yX10_hasObject yX10_hasObject] : List Cond) ++ ([.code yX10_hasObject cX10_hasObject 2 (some .boolean)] : List Cond))) ++ wsX110 ++ wsX30 ++ wsX100)
set_option maxRecDepth 20000 in
theorem gm_X11_role_e_X11_isBelow_91 : GoodIn wm_X11_role_e (va_wsS RX11 91 yX11_isBelow wm_X11_isBelow) := goodIn_w (List.forall_mem_append.mpr ⟨List.forall_mem_cons.mpr ⟨List.mem_cons_of_mem _ (List.mem_append_left _ (List.mem_append_left _ (List.mem_append_left _ (List.mem_append_left _ (List.mem_of_getElem? (i := 2) rfl))))), List.forall_mem_cons.mpr ⟨List.mem_cons_of_mem _ (List.mem_append_left _ (List.mem_append_left _ (List.mem_append_left _ (List.mem_append_left _ (List.mem_of_getElem? (i := 3) rfl))))), List.forall_mem_cons.mpr ⟨List.mem_cons_of_mem _ (List.mem_append_left _ (List.mem_append_left _ (List.mem_append_left _ (List.mem_append_left _ (List.mem_of_getElem? (i := 4) rfl))))), (fun _ h => absurd h List.not_mem_nil)⟩⟩⟩, List.forall_mem_cons.mpr ⟨List.mem_cons_of_mem _ (List.mem_append_left _ (List.mem_append_left _ (List.mem_append_left _ (List.mem_append_left _ (List.mem_of_getElem? (i := 5) rfl))))), (fun _ h => absurd h List.not_mem_nil)⟩⟩) (by decide +kernel)
set_option maxRecDepth 20000 in
theorem gm_X11_role_e_X10_isOfSort_e_344 : GoodIn wm_X11_role_e (wsV RX11 344 RX10 yX10_isOfSort wm_X10_isOfSort_e) := goodIn_w (List.forall_mem_append.mpr ⟨List.forall_mem_cons.mpr ⟨List.mem_cons_of_mem _ (List.mem_append_left _ (List.mem_append_left _ (List.mem_append_left _ (List.mem_append_left _ (List.mem_of_getElem? (i := 10) rfl))))), List.forall_mem_cons.mpr ⟨List.mem_cons_of_mem _ (List.mem_append_left _ (List.mem_append_left _ (List.mem_append_left _ (List.mem_append_left _ (List.mem_of_getElem? (i := 11) rfl))))), List.forall_mem_cons.mpr ⟨List.mem_cons_of_mem _ (List.mem_append_left _ (List.mem_append_left _ (List.mem_append_left _ (List.mem_append_left _ (List.mem_of_getElem? (i := 12) rfl))))), List.forall_mem_cons.mpr ⟨List.mem_cons_of_mem _ (List.mem_append_left _ (List.mem_append_left _ (List.mem_append_left _ (List.mem_append_left _ (List.mem_of_getElem? (i := 13) rfl))))), (fun _ h => absurd h List.not_mem_nil)⟩⟩⟩⟩, List.forall_mem_cons.mpr ⟨List.mem_cons_of_mem _ (List.mem_append_left _ (List.mem_append_left _ (List.mem_append_left _ (List.mem_append_left _ (List.mem_of_getElem? (i := 14) rfl))))), List.forall_mem_append.mpr ⟨List.forall_mem_cons.mpr ⟨List.mem_cons_of_mem _ (List.mem_append_left _ (List.mem_append_left _ (List.mem_append_left _ (List.mem_append_left _ (List.mem_of_getElem? (i := 15) rfl))))), List.forall_mem_cons.mpr ⟨List.mem_cons_of_mem _ (List.mem_append_left _ (List.mem_append_left _ (List.mem_append_left _ (List.mem_append_right _ (List.mem_append_left _ (List.mem_of_getElem? (i := 0) rfl)))))), List.forall_mem_cons.mpr ⟨List.mem_cons_of_mem _ (List.mem_append_left _ (List.mem_append_left _ (List.mem_append_left _ (List.mem_append_right _ (List.mem_append_left _ (List.mem_of_getElem? (i := 1) rfl)))))), List.forall_mem_cons.mpr ⟨List.mem_cons_of_mem _ (List.mem_append_left _ (List.mem_append_left _ (List.mem_append_left _ (List.mem_append_left _ (List.mem_of_getElem? (i := 13) rfl))))), List.forall_mem_cons.mpr ⟨List.mem_cons_of_mem _ (List.mem_append_left _ (List.mem_append_left _ (List.mem_append_left _ (List.mem_append_right _ (List.mem_append_left _ (List.mem_of_getElem? (i := 2) rfl)))))), List.forall_mem_cons.mpr ⟨List.mem_cons_of_mem _ (List.mem_append_left _ (List.mem_append_left _ (List.mem_append_left _ (List.mem_append_right _ (List.mem_append_left _ (List.mem_of_getElem? (i := 3) rfl)))))), List.forall_mem_cons.mpr ⟨List.mem_cons_of_mem _ (List.mem_append_left _ (List.mem_append_left _ (List.mem_append_left _ (List.mem_append_right _ (List.mem_append_left _ (List.mem_of_getElem? (i := 4) rfl)))))), List.forall_mem_cons.mpr ⟨List.mem_cons_of_mem _ (List.mem_append_left _ (List.mem_append_left _ (List.mem_append_left _ (List.mem_append_right _ (List.mem_append_left _ (List.mem_of_getElem? (i := 5) rfl)))))), (fun _ h => absurd h List.not_mem_nil)⟩⟩⟩⟩⟩⟩⟩⟩, (fun _ h => List.mem_cons_of_mem _ (List.mem_append_right _ h))⟩⟩⟩) (by decide +kernel)
set_option maxRecDepth 20000 in
theorem gm_X11_role_e_X11_answerFinding_128 : GoodIn wm_X11_role_e (wsV RX11 128 RX11 yX11_answerFinding wm_X11_answerFinding) := goodIn_w (List.forall_mem_append.mpr ⟨List.forall_mem_cons.mpr ⟨List.mem_cons_of_mem _ (List.mem_append_left _ (List.mem_append_left _ (List.mem_append_left _ (List.mem_append_right _ (List.mem_append_left _ (List.mem_of_getElem? (i := 6) rfl)))))), List.forall_mem_cons.mpr ⟨List.mem_cons_of_mem _ (List.mem_append_left _ (List.mem_append_left _ (List.mem_append_left _ (List.mem_append_right _ (List.mem_append_left _ (List.mem_of_getElem? (i := 7) rfl)))))), List.forall_mem_cons.mpr ⟨List.mem_cons_of_mem _ (List.mem_append_left _ (List.mem_append_left _ (List.mem_append_left _ (List.mem_append_right _ (List.mem_append_left _ (List.mem_of_getElem? (i := 8) rfl)))))), List.forall_mem_cons.mpr ⟨List.mem_cons_of_mem _ (List.mem_append_left _ (List.mem_append_left _ (List.mem_append_left _ (List.mem_append_left _ (List.mem_of_getElem? (i := 4) rfl))))), (fun _ h => absurd h List.not_mem_nil)⟩⟩⟩⟩, List.forall_mem_cons.mpr ⟨List.mem_cons_of_mem _ (List.mem_append_left _ (List.mem_append_left _ (List.mem_append_left _ (List.mem_append_right _ (List.mem_append_left _ (List.mem_of_getElem? (i := 9) rfl)))))), List.forall_mem_append.mpr ⟨List.forall_mem_cons.mpr ⟨List.mem_cons_of_mem _ (List.mem_append_left _ (List.mem_append_left _ (List.mem_append_left _ (List.mem_append_right _ (List.mem_append_left _ (List.mem_of_getElem? (i := 10) rfl)))))), List.forall_mem_cons.mpr ⟨List.mem_cons_of_mem _ (List.mem_append_left _ (List.mem_append_left _ (List.mem_append_left _ (List.mem_append_right _ (List.mem_append_left _ (List.mem_of_getElem? (i := 11) rfl)))))), (fun _ h => absurd h List.not_mem_nil)⟩⟩, (fun _ h => List.mem_cons_of_mem _ (List.mem_append_left _ (List.mem_append_left _ (List.mem_append_right _ h))))⟩⟩⟩) (by decide +kernel)
set_option maxRecDepth 20000 in
theorem gm_X11_role_e_X10_sortOf_e_125 : GoodIn wm_X11_role_e (wsV RX11 125 RX10 yX10_sortOf wm_X10_sortOf_e) := goodIn_w (List.forall_mem_append.mpr ⟨List.forall_mem_cons.mpr ⟨List.mem_cons_of_mem _ (List.mem_append_left _ (List.mem_append_left _ (List.mem_append_left _ (List.mem_append_right _ (List.mem_append_left _ (List.mem_of_getElem? (i := 12) rfl)))))), List.forall_mem_cons.mpr ⟨List.mem_cons_of_mem _ (List.mem_append_left _ (List.mem_append_left _ (List.mem_append_left _ (List.mem_append_right _ (List.mem_append_left _ (List.mem_of_getElem? (i := 0) rfl)))))), List.forall_mem_cons.mpr ⟨List.mem_cons_of_mem _ (List.mem_append_left _ (List.mem_append_left _ (List.mem_append_left _ (List.mem_append_right _ (List.mem_append_left _ (List.mem_of_getElem? (i := 1) rfl)))))), List.forall_mem_cons.mpr ⟨List.mem_cons_of_mem _ (List.mem_append_left _ (List.mem_append_left _ (List.mem_append_left _ (List.mem_append_left _ (List.mem_of_getElem? (i := 13) rfl))))), (fun _ h => absurd h List.not_mem_nil)⟩⟩⟩⟩, List.forall_mem_cons.mpr ⟨List.mem_cons_of_mem _ (List.mem_append_left _ (List.mem_append_left _ (List.mem_append_left _ (List.mem_append_right _ (List.mem_append_left _ (List.mem_of_getElem? (i := 2) rfl)))))), List.forall_mem_append.mpr ⟨List.forall_mem_cons.mpr ⟨List.mem_cons_of_mem _ (List.mem_append_left _ (List.mem_append_left _ (List.mem_append_left _ (List.mem_append_right _ (List.mem_append_left _ (List.mem_of_getElem? (i := 3) rfl)))))), List.forall_mem_cons.mpr ⟨List.mem_cons_of_mem _ (List.mem_append_left _ (List.mem_append_left _ (List.mem_append_left _ (List.mem_append_right _ (List.mem_append_left _ (List.mem_of_getElem? (i := 4) rfl)))))), List.forall_mem_cons.mpr ⟨List.mem_cons_of_mem _ (List.mem_append_left _ (List.mem_append_left _ (List.mem_append_left _ (List.mem_append_right _ (List.mem_append_left _ (List.mem_of_getElem? (i := 5) rfl)))))), (fun _ h => absurd h List.not_mem_nil)⟩⟩⟩, (fun _ h => List.mem_cons_of_mem _ (List.mem_append_right _ h))⟩⟩⟩) (by decide +kernel)
set_option maxRecDepth 20000 in
theorem gm_X11_role_e_X10_hasObject_109 : GoodIn wm_X11_role_e (wsV RX11 109 RX10 yX10_hasObject wm_X10_hasObject) := goodIn_w (List.forall_mem_append.mpr ⟨List.forall_mem_cons.mpr ⟨List.mem_cons_of_mem _ (List.mem_append_left _ (List.mem_append_left _ (List.mem_append_left _ (List.mem_append_right _ (List.mem_append_left _ (List.mem_of_getElem? (i := 13) rfl)))))), List.forall_mem_cons.mpr ⟨List.mem_cons_of_mem _ (List.mem_append_left _ (List.mem_append_left _ (List.mem_append_left _ (List.mem_append_right _ (List.mem_append_left _ (List.mem_of_getElem? (i := 14) rfl)))))), List.forall_mem_cons.mpr ⟨List.mem_cons_of_mem _ (List.mem_append_left _ (List.mem_append_left _ (List.mem_append_left _ (List.mem_append_right _ (List.mem_append_left _ (List.mem_of_getElem? (i := 15) rfl)))))), List.forall_mem_cons.mpr ⟨List.mem_cons_of_mem _ (List.mem_append_left _ (List.mem_append_left _ (List.mem_append_left _ (List.mem_append_left _ (List.mem_of_getElem? (i := 13) rfl))))), (fun _ h => absurd h List.not_mem_nil)⟩⟩⟩⟩, List.forall_mem_cons.mpr ⟨List.mem_cons_of_mem _ (List.mem_append_left _ (List.mem_append_left _ (List.mem_append_left _ (List.mem_append_right _ (List.mem_append_right _ (List.mem_of_getElem? (i := 0) rfl)))))), List.forall_mem_append.mpr ⟨List.forall_mem_cons.mpr ⟨List.mem_cons_of_mem _ (List.mem_append_left _ (List.mem_append_left _ (List.mem_append_left _ (List.mem_append_right _ (List.mem_append_left _ (List.mem_of_getElem? (i := 3) rfl)))))), (fun _ h => absurd h List.not_mem_nil)⟩, (fun _ h => List.mem_cons_of_mem _ (List.mem_append_right _ h))⟩⟩⟩) (by decide +kernel)
set_option maxHeartbeats 4000000 in
set_option maxRecDepth 100000 in
theorem x_X11_role_e (l : Launch) (D : va_G) (sz : Nat) (sk : Value) (a : Nat → Nat) (t : Nat → ClassId) (i : Nat → Int32) (q : Int64) (c : Nat → Nat → Int32) (d : Nat → Nat → Int64) (w : Int32) (n1 : Int32) (w2 : Int32) (hI : xInv i c) : Met l yX11_role wm_X11_role_e ({ frames := 2, cells := 0, slots := 0, locals := 44 }) (va_Pc [.ref (a 100), .int w, .int n1, .int w2] (yB (a 186) D sz (xwT sk a t i q c d) (xtT t))) (va_Qi (fun (r : Int32) (u : MS) => True ∧ xInv u.1 u.2.2.1 ∧ (∀ k, k ∉ ([102] : List Nat) → u.1 k = i k) ∧ (∀ k, k ∉ ([101, 164] : List Nat) → u.2.2.1 k = c k) ∧ (RoW (c 164) (u.2.2.1 164) w n1 w2 (i 165) (i 111) r (RBx (c 108) (c 106) (c 162) (c 163) w n1 w2))) (oC D (va_A (xwT sk a t i q c d) sz) (fun u : MS => xwT sk a t u.1 u.2.1 u.2.2.1 u.2.2.2) (fun _ => [])) (va_A (xwT sk a t i q c d) sz)) 0 0 (va_A (xwT sk a t i q c d) sz) := by
  refine Met.ofW (cc := cX11_role) (maxL := 4) (ret := (some .int)) (by decide +kernel) rfl ?_
  intro p e s m args below meth cd s₁ B hml hv
  obtain ⟨rfl, ⟨hsz, hP, hK, hD0⟩, hN, hZ, hBW⟩ := hv
  have hx := B.exec
  have hb := B.bytes
  have hr := B.returns
  have hts := atoms_spec (ws := wm_X11_role_e) B.pre
  have hown : s.vm.findClass RX11 = some m.cls := findClass_of_methodNamed B.named
  have hlocks := B.notSynchronized
  subst hsz
  have hD := hD0.self (sz := s.heap.size)
  have hZ := xZ_A hZ hP hBW
  generalize hAe : va_A (xwT sk a t i q c d) s.heap.size = A at hD hZ ⊢
  have hA : ∀ q : Nat, s.heap.size ≤ q → A q := fun q h => by rw [← hAe]; exact Or.inr h
  have hS : va_S A s.heap s.heap [] := va_S.rf
  have hfi : ∀ k, k ∉ ([] : List Nat) → i k = i k := fun _ _ => rfl
  have hfc : ∀ k, k ∉ ([] : List Nat) → c k = c k := fun _ _ => rfl
  have hl := lv_entry ([.ref (a 100), .int w, .int n1, .int w2]) (n := 4) (Nat.le_of_ble_eq_true rfl)
  rw [lg_entry_eq]
  generalize (lg_sl ([.ref (a 100), .int w, .int n1, .int w2]) ++ List.replicate (4 - (lg_sl ([.ref (a 100), .int w, .int n1, .int w2])).length) Slot.unset).toArray = ls at hl ⊢
  have hl : lv_has ls 4 [(0, .ref (a 100)), (1, .int w), (2, .int n1), (3, .int w2)] := hl
  have rb111_i : 0 ≤ (i 111).toInt ∧ (i 111).toInt ≤ 30 := hI.1 111
  have rb165_i : 0 ≤ (i 165).toInt ∧ (i 165).toInt ≤ 10 := hI.1 165
  refine lv_iload_n hx hb dX11_role_0 rfl (lv_at hl 1 rfl) ?_
  refine lv_aload_n hx hb dX11_role_1 rfl (lv_at hl 0 rfl) ?_
  refine xgT_X_casts hx hb hts (fun _ h => List.mem_cons_of_mem _ (List.mem_append_left _ (List.mem_append_left _ (List.mem_append_right _ h)))) hown hK hP (hts (.fieldLink RX11 60 "TalePlay" "casts" "LTalePlay$Casts;") (List.mem_cons_of_mem _ (List.mem_append_left _ (List.mem_append_left _ (List.mem_append_left _ (List.mem_append_left _ (List.mem_of_getElem? (i := 0) rfl))))))) dX11_role_2 ?_
  refine xgT_C_made (v := (i 165)) rfl hx hb hts (fun _ h => List.mem_cons_of_mem _ (List.mem_append_left _ (List.mem_append_right _ h))) hown hK hP (hts (.fieldLink RX11 334 "TalePlay$Casts" "made" "I") (List.mem_cons_of_mem _ (List.mem_append_left _ (List.mem_append_left _ (List.mem_append_left _ (List.mem_append_left _ (List.mem_of_getElem? (i := 1) rfl))))))) dX11_role_5 ?_
  have hPc := hP.sub (ws' := []) [] rfl
  have hKc := hK.sub (tys' := []) [] rfl
  refine ro_calli (va_runS (As := [.int w, .int (i 165)]) (rest := []) ⟨hx, hb, hml, hown, hts⟩ (c_X11_isBelow l D s.heap.size w (i 165) w.toInt ((i 165).toInt) rfl rfl) (va_cwS 2 hts gm_X11_role_e_X11_isBelow_91 rfl rfl rfl (by decide +kernel) ⟨Nat.le_of_ble_eq_true rfl, Nat.le_of_ble_eq_true rfl⟩) (pA_S hKc hPc) rfl rfl hl.1 rfl (lv_room (Nat.le_of_ble_eq_true rfl)) dX11_role_8 ⟨Nat.le_of_ble_eq_true rfl, Nat.le_of_ble_eq_true rfl⟩) hS hA hP (fun r2 u2 H locs hw2 hP hS => ?_)
  have hw2 : r2 = if (0 ≤ w.toInt ∧ w.toInt < ((i 165).toInt)) then 1 else 0 := hw2
  refine lv_if_eq (tgt := 31) hx hb dX11_role_11 (by decide +kernel) (fun c3 => ?_) (fun c3 => ?_)
  · have f3 := fl_f hw2 c3
    refine lv_iconst (v := (-1)) hx hb dX11_role_31 (by decide +kernel) ?_
    exact rw_iret (i, q, c, d) hx hb hr hlocks hS (hK.sub (tys' := []) [] rfl) hP hD dX11_role_32 ⟨trivial, hI, fr_w hfi (by decide +kernel), fr_w hfc (by decide +kernel), (show RoW (c 164) (c 164) w n1 w2 (i 165) (i 111) ((-1) : Int32) (RBx (c 108) (c 106) (c 162) (c 163) w n1 w2) from Or.inl ⟨by unfold RA; omega, by decide, rfl⟩)⟩
  · have f3 := fl_t hw2 c3
    refine lv_iload_n hx hb dX11_role_14 rfl (lv_at hl 3 rfl) ?_
    refine lv_bipush (v := (-9)) hx hb dX11_role_15 (by decide +kernel) ?_
    refine lv_icmp_eq (tgt := 33) hx hb dX11_role_17 (by decide +kernel) (fun c4 => ?_) (fun c4 => ?_)
    · have f4 := (ti_eq (a := w2.toInt) (b := (-9)) rfl (by decide +kernel)).mp c4
      refine lv_iload_n hx hb dX11_role_33 rfl (lv_at hl 3 rfl) ?_
      refine lv_bipush (v := (-9)) hx hb dX11_role_34 (by decide +kernel) ?_
      refine lv_icmp_eq (tgt := 56) hx hb dX11_role_36 (by decide +kernel) (fun c5 => ?_) (fun c5 => ?_)
      · have f5 := (ti_eq (a := w2.toInt) (b := (-9)) rfl (by decide +kernel)).mp c5
        refine lv_iload_n hx hb dX11_role_56 rfl (lv_at hl 2 rfl) ?_
        refine lv_aload_n hx hb dX11_role_57 rfl (lv_at hl 0 rfl) ?_
        refine xgT_X_casts hx hb hts (fun _ h => List.mem_cons_of_mem _ (List.mem_append_left _ (List.mem_append_left _ (List.mem_append_right _ h)))) hown hK hP (hts (.fieldLink RX11 60 "TalePlay" "casts" "LTalePlay$Casts;") (List.mem_cons_of_mem _ (List.mem_append_left _ (List.mem_append_left _ (List.mem_append_left _ (List.mem_append_left _ (List.mem_of_getElem? (i := 0) rfl))))))) dX11_role_58 ?_
        refine xgT_C_lengths hx hb hts (fun _ h => List.mem_cons_of_mem _ (List.mem_append_left _ (List.mem_append_right _ h))) hown hK hP (hts (.fieldLink RX11 340 "TalePlay$Casts" "lengths" "[I") (List.mem_cons_of_mem _ (List.mem_append_left _ (List.mem_append_left _ (List.mem_append_left _ (List.mem_append_left _ (List.mem_of_getElem? (i := 6) rfl))))))) dX11_role_61 ?_
        refine lv_iload_n hx hb dX11_role_64 rfl (lv_at hl 1 rfl) ?_
        refine xlT_163 hx hb hK hP (vp_in_iff.mpr (by have h9 : w.toInt = w.toInt := rfl; omega)) dX11_role_65 (fun x6 ex6 => ?_)
        have rx6 : 0 ≤ x6.toInt ∧ x6.toInt ≤ 12 := by rw [ex6]; exact hI.2 163 _
        have gx6 : (c 163 (w : Int32).toNatClampNeg).toInt = x6.toInt := (congrArg Int32.toInt ex6).symm
        have hPc := hP.sub (ws' := []) [] rfl
        have hKc := hK.sub (tys' := []) [] rfl
        refine ro_calli (va_runS (As := [.int n1, .int x6]) (rest := []) ⟨hx, hb, hml, hown, hts⟩ (c_X11_isBelow l D H.size n1 x6 n1.toInt x6.toInt rfl rfl) (va_cwS 2 hts gm_X11_role_e_X11_isBelow_91 rfl rfl rfl (by decide +kernel) ⟨Nat.le_of_ble_eq_true rfl, Nat.le_of_ble_eq_true rfl⟩) (pA_S hKc hPc) rfl rfl hl.1 rfl (lv_room (Nat.le_of_ble_eq_true rfl)) dX11_role_66 ⟨Nat.le_of_ble_eq_true rfl, Nat.le_of_ble_eq_true rfl⟩) hS hA hP (fun r8 u8 H locs hw8 hP hS => ?_)
        have hw8 : r8 = if (0 ≤ n1.toInt ∧ n1.toInt < x6.toInt) then 1 else 0 := hw8
        refine lv_if_ne (tgt := 78) hx hb dX11_role_69 (by decide +kernel) (fun c9 => ?_) (fun c9 => ?_)
        · have f9 := fl_t hw8 c9
          refine lv_iload_n hx hb dX11_role_78 rfl (lv_at hl 3 rfl) ?_
          refine lv_bipush (v := (-9)) hx hb dX11_role_79 (by decide +kernel) ?_
          refine lv_icmp_eq (tgt := 111) hx hb dX11_role_81 (by decide +kernel) (fun c10 => ?_) (fun c10 => ?_)
          · have f10 := (ti_eq (a := w2.toInt) (b := (-9)) rfl (by decide +kernel)).mp c10
            refine lv_aload_n hx hb dX11_role_111 rfl (lv_at hl 0 rfl) ?_
            refine xgT_X_casts hx hb hts (fun _ h => List.mem_cons_of_mem _ (List.mem_append_left _ (List.mem_append_left _ (List.mem_append_right _ h)))) hown hK hP (hts (.fieldLink RX11 60 "TalePlay" "casts" "LTalePlay$Casts;") (List.mem_cons_of_mem _ (List.mem_append_left _ (List.mem_append_left _ (List.mem_append_left _ (List.mem_append_left _ (List.mem_of_getElem? (i := 0) rfl))))))) dX11_role_112 ?_
            refine xgT_C_roles hx hb hts (fun _ h => List.mem_cons_of_mem _ (List.mem_append_left _ (List.mem_append_right _ h))) hown hK hP (hts (.fieldLink RX11 347 "TalePlay$Casts" "roles" "[I") (List.mem_cons_of_mem _ (List.mem_append_left _ (List.mem_append_left _ (List.mem_append_left _ (List.mem_append_left _ (List.mem_of_getElem? (i := 7) rfl))))))) dX11_role_115 ?_
            refine lv_iload_n hx hb dX11_role_118 rfl (lv_at hl 1 rfl) ?_
            refine lv_bipush (v := 12) hx hb dX11_role_119 (by decide +kernel) ?_
            refine lv_imul hx hb dX11_role_121 ?_
            refine lv_topi (fun x11 ex11 => ?_)
            have tx11 := ti_mul (a := w.toInt) (b := 12) ex11 rfl (by decide +kernel) (by omega) (by omega)
            refine lv_iload_n hx hb dX11_role_122 rfl (lv_at hl 2 rfl) ?_
            refine lv_iadd hx hb dX11_role_123 ?_
            refine lv_topi (fun x12 ex12 => ?_)
            have tx12 := ti_add (a := (w.toInt * 12)) (b := n1.toInt) ex12 tx11 rfl (by omega) (by omega)
            refine lv_iload_n hx hb dX11_role_124 rfl (lv_at hl 3 rfl) ?_
            refine xsT_164 hx hb hK hP hD hS (vp_in_iff.mpr (by have h9 : x12.toInt = ((w.toInt * 12) + n1.toInt) := tx12; omega)) dX11_role_125 (fun H locs hP hD hS => ?_)
            have hI := xInv_c hI (k := 164) (j := (x12 : Int32).toNatClampNeg) (x := w2) (show (w2 : Int32).toInt = -9 ∨ (0 ≤ (w2 : Int32).toInt ∧ (w2 : Int32).toInt ≤ 29) from by omega)
            have hfc : ∀ k, k ∉ ([164] : List Nat) → (updA c 164 (x12 : Int32).toNatClampNeg w2) k = c k := fr_cz hfc (by decide +kernel) (by decide +kernel)
            refine lv_iconst (v := 1) hx hb dX11_role_126 (by decide +kernel) ?_
            exact rw_iret (i, q, (updA c 164 (x12 : Int32).toNatClampNeg w2), d) hx hb hr hlocks hS (hK.sub (tys' := []) [] rfl) hP hD dX11_role_127 ⟨trivial, hI, fr_w hfi (by decide +kernel), fr_w hfc (by decide +kernel), (show RoW (c 164) ((updA c 164 (x12 : Int32).toNatClampNeg w2) 164) w n1 w2 (i 165) (i 111) (1 : Int32) (RBx (c 108) (c 106) (c 162) (c 163) w n1 w2) from Or.inr (Or.inr ⟨by unfold RA; omega, by unfold RBx; omega, by decide, by show upd (c 164) (x12 : Int32).toNatClampNeg w2 = _; rw [cl_t (show (x12 : Int32).toInt = w.toInt * 12 + n1.toInt from by omega)]⟩))⟩
          · have f10 := mt (ti_eq (a := w2.toInt) (b := (-9)) rfl (by decide +kernel)).mpr c10
            refine lv_aload_n hx hb dX11_role_84 rfl (lv_at hl 0 rfl) ?_
            refine xgT_X_world hx hb hts (fun _ h => List.mem_cons_of_mem _ (List.mem_append_left _ (List.mem_append_left _ (List.mem_append_right _ h)))) hown hK hP (hts (.fieldLink RX11 10 "TalePlay" "world" "LTalePlay$World;") (List.mem_cons_of_mem _ (List.mem_append_left _ (List.mem_append_left _ (List.mem_append_left _ (List.mem_append_left _ (List.mem_of_getElem? (i := 8) rfl))))))) dX11_role_85 ?_
            refine lv_iload_n hx hb dX11_role_88 rfl (lv_at hl 3 rfl) ?_
            refine lv_aload_n hx hb dX11_role_89 rfl (lv_at hl 0 rfl) ?_
            refine xgT_X_casts hx hb hts (fun _ h => List.mem_cons_of_mem _ (List.mem_append_left _ (List.mem_append_left _ (List.mem_append_right _ h)))) hown hK hP (hts (.fieldLink RX11 60 "TalePlay" "casts" "LTalePlay$Casts;") (List.mem_cons_of_mem _ (List.mem_append_left _ (List.mem_append_left _ (List.mem_append_left _ (List.mem_append_left _ (List.mem_of_getElem? (i := 0) rfl))))))) dX11_role_90 ?_
            refine xgT_C_sorts hx hb hts (fun _ h => List.mem_cons_of_mem _ (List.mem_append_left _ (List.mem_append_right _ h))) hown hK hP (hts (.fieldLink RX11 343 "TalePlay$Casts" "sorts" "[I") (List.mem_cons_of_mem _ (List.mem_append_left _ (List.mem_append_left _ (List.mem_append_left _ (List.mem_append_left _ (List.mem_of_getElem? (i := 9) rfl))))))) dX11_role_93 ?_
            refine lv_iload_n hx hb dX11_role_96 rfl (lv_at hl 1 rfl) ?_
            refine xlT_162 hx hb hK hP (vp_in_iff.mpr (by have h9 : w.toInt = w.toInt := rfl; omega)) dX11_role_97 (fun x13 ex13 => ?_)
            have rx13 : 0 ≤ x13.toInt ∧ x13.toInt ≤ 5 := by rw [ex13]; exact hI.2 162 _
            have gx13 : (c 162 (w : Int32).toNatClampNeg).toInt = x13.toInt := (congrArg Int32.toInt ex13).symm
            refine ro_calli (va_runV (As := [.int w2, .int x13]) (rest := []) ⟨hx, hb, hml, hown, hts⟩ (x_X10_isOfSort_e l D H.size .null a t i q c d w2 x13 hI (show 0 ≤ w2.toInt ∧ w2.toInt < ((i 111) : Int32).toInt from by omega)) (cwV 2 hts gm_X11_role_e_X10_isOfSort_e_344 rfl rfl rfl (by decide +kernel) ⟨Nat.le_of_ble_eq_true rfl, Nat.le_of_ble_eq_true rfl⟩) (yA_V hN (xZ_k hZ hS hA) (xkT_W hK) (xuT_W (sk := sk) hP) (ci := 10) (q0 := 0) rfl rfl) rfl rfl hl.1 rfl (lv_room (Nat.le_of_ble_eq_true rfl)) dX11_role_98 ⟨Nat.le_of_ble_eq_true rfl, Nat.le_of_ble_eq_true rfl⟩) hS hA hP (fun r14 u14 H locs hw14 hP hS => ?_)
            have hw14 : ((r14.toInt = 1 ∧ ((c 106 (c 108 w2.toInt.toNat).toNatClampNeg).toInt = x13.toInt ∨ (x13.toInt = 1 ∧ 1 < (c 106 (c 108 w2.toInt.toNat).toNatClampNeg).toInt))) ∨ (r14.toInt = 0 ∧ ¬ ((c 106 (c 108 w2.toInt.toNat).toNatClampNeg).toInt = x13.toInt ∨ (x13.toInt = 1 ∧ 1 < (c 106 (c 108 w2.toInt.toNat).toNatClampNeg).toInt)))) := hw14
            refine lv_if_ne (tgt := 111) hx hb dX11_role_101 (by decide +kernel) (fun c15 => ?_) (fun c15 => ?_)
            · have f15 := mt (ti_eq (a := r14.toInt) (b := 0) rfl (by decide +kernel)).mpr c15
              refine lv_aload_n hx hb dX11_role_111 rfl (lv_at hl 0 rfl) ?_
              refine xgT_X_casts hx hb hts (fun _ h => List.mem_cons_of_mem _ (List.mem_append_left _ (List.mem_append_left _ (List.mem_append_right _ h)))) hown hK hP (hts (.fieldLink RX11 60 "TalePlay" "casts" "LTalePlay$Casts;") (List.mem_cons_of_mem _ (List.mem_append_left _ (List.mem_append_left _ (List.mem_append_left _ (List.mem_append_left _ (List.mem_of_getElem? (i := 0) rfl))))))) dX11_role_112 ?_
              refine xgT_C_roles hx hb hts (fun _ h => List.mem_cons_of_mem _ (List.mem_append_left _ (List.mem_append_right _ h))) hown hK hP (hts (.fieldLink RX11 347 "TalePlay$Casts" "roles" "[I") (List.mem_cons_of_mem _ (List.mem_append_left _ (List.mem_append_left _ (List.mem_append_left _ (List.mem_append_left _ (List.mem_of_getElem? (i := 7) rfl))))))) dX11_role_115 ?_
              refine lv_iload_n hx hb dX11_role_118 rfl (lv_at hl 1 rfl) ?_
              refine lv_bipush (v := 12) hx hb dX11_role_119 (by decide +kernel) ?_
              refine lv_imul hx hb dX11_role_121 ?_
              refine lv_topi (fun x16 ex16 => ?_)
              have tx16 := ti_mul (a := w.toInt) (b := 12) ex16 rfl (by decide +kernel) (by omega) (by omega)
              refine lv_iload_n hx hb dX11_role_122 rfl (lv_at hl 2 rfl) ?_
              refine lv_iadd hx hb dX11_role_123 ?_
              refine lv_topi (fun x17 ex17 => ?_)
              have tx17 := ti_add (a := (w.toInt * 12)) (b := n1.toInt) ex17 tx16 rfl (by omega) (by omega)
              refine lv_iload_n hx hb dX11_role_124 rfl (lv_at hl 3 rfl) ?_
              refine xsT_164 hx hb hK hP hD hS (vp_in_iff.mpr (by have h9 : x17.toInt = ((w.toInt * 12) + n1.toInt) := tx17; omega)) dX11_role_125 (fun H locs hP hD hS => ?_)
              have hI := xInv_c hI (k := 164) (j := (x17 : Int32).toNatClampNeg) (x := w2) (show (w2 : Int32).toInt = -9 ∨ (0 ≤ (w2 : Int32).toInt ∧ (w2 : Int32).toInt ≤ 29) from by omega)
              have hfc : ∀ k, k ∉ ([164] : List Nat) → (updA c 164 (x17 : Int32).toNatClampNeg w2) k = c k := fr_cz hfc (by decide +kernel) (by decide +kernel)
              refine lv_iconst (v := 1) hx hb dX11_role_126 (by decide +kernel) ?_
              exact rw_iret (i, q, (updA c 164 (x17 : Int32).toNatClampNeg w2), d) hx hb hr hlocks hS (hK.sub (tys' := []) [] rfl) hP hD dX11_role_127 ⟨trivial, hI, fr_w hfi (by decide +kernel), fr_w hfc (by decide +kernel), (show RoW (c 164) ((updA c 164 (x17 : Int32).toNatClampNeg w2) 164) w n1 w2 (i 165) (i 111) (1 : Int32) (RBx (c 108) (c 106) (c 162) (c 163) w n1 w2) from Or.inr (Or.inr ⟨by unfold RA; omega, by unfold RBx; omega, by decide, by show upd (c 164) (x17 : Int32).toNatClampNeg w2 = _; rw [cl_t (show (x17 : Int32).toInt = w.toInt * 12 + n1.toInt from by omega)]⟩))⟩
            · have f15 := (ti_eq (a := r14.toInt) (b := 0) rfl (by decide +kernel)).mp c15
              refine lv_aload_n hx hb dX11_role_104 rfl (lv_at hl 0 rfl) ?_
              refine lv_bipush (v := 6) hx hb dX11_role_105 (by decide +kernel) ?_
              refine al_calli (va_runV (As := [.int 6]) (rest := []) ⟨hx, hb, hml, hown, hts⟩ (x_X11_answerFinding l D H.size sk a t i q c d 6 hI (show 1 ≤ 6 ∧ 6 ≤ 6 from by decide +kernel)) (cwV 1 hts gm_X11_role_e_X11_answerFinding_128 rfl rfl rfl (by decide +kernel) ⟨Nat.le_of_ble_eq_true rfl, Nat.le_of_ble_eq_true rfl⟩) (yB_V hN (xZ_k hZ hS hA) (xZ_n hZ hD) hK hP hD (ci := 11) (q0 := 0) rfl rfl) rfl rfl hl.1 rfl (lv_room (Nat.le_of_ble_eq_true rfl)) dX11_role_107 ⟨Nat.le_of_ble_eq_true rfl, Nat.le_of_ble_eq_true rfl⟩) hS hA hP hD (fun r18 u18 H locs hw18 hP hD hS => ?_)
              obtain ⟨i18, q18, c18, d18⟩ := u18
              have hw18 : r18 = (-3) ∧ xInv i18 c18 ∧ (∀ k, k ∉ ([102] : List Nat) → i18 k = i k) ∧ (∀ k, k ∉ ([101] : List Nat) → c18 k = c k) := hw18
              obtain ⟨hw18, hI, hei18, hec18⟩ := hw18
              have hfi : ∀ k, k ∉ ([102] : List Nat) → i18 k = i k := fr_z hfi hei18 (by decide +kernel) (by decide +kernel)
              have hfc : ∀ k, k ∉ ([101] : List Nat) → c18 k = c k := fr_z hfc hec18 (by decide +kernel) (by decide +kernel)
              have hw18 : r18 = (-3) := hw18
              subst hw18
              exact rw_iret (i18, q18, c18, d18) hx hb hr hlocks hS (hK.sub (tys' := []) [] rfl) hP hD dX11_role_110 ⟨trivial, hI, fr_w hfi (by decide +kernel), fr_w hfc (by decide +kernel), (show RoW (c 164) (c18 164) w n1 w2 (i 165) (i 111) ((-3) : Int32) (RBx (c 108) (c 106) (c 162) (c 163) w n1 w2) from Or.inr (Or.inl ⟨by unfold RA; omega, by unfold RBx; omega, by decide, hfc 164 (by decide +kernel)⟩))⟩
        · have f9 := fl_f hw8 c9
          refine lv_aload_n hx hb dX11_role_72 rfl (lv_at hl 0 rfl) ?_
          refine lv_iconst (v := 2) hx hb dX11_role_73 (by decide +kernel) ?_
          refine al_calli (va_runV (As := [.int 2]) (rest := []) ⟨hx, hb, hml, hown, hts⟩ (x_X11_answerFinding l D H.size sk a t i q c d 2 hI (show 1 ≤ 2 ∧ 2 ≤ 6 from by decide +kernel)) (cwV 1 hts gm_X11_role_e_X11_answerFinding_128 rfl rfl rfl (by decide +kernel) ⟨Nat.le_of_ble_eq_true rfl, Nat.le_of_ble_eq_true rfl⟩) (yB_V hN (xZ_k hZ hS hA) (xZ_n hZ hD) hK hP hD (ci := 11) (q0 := 0) rfl rfl) rfl rfl hl.1 rfl (lv_room (Nat.le_of_ble_eq_true rfl)) dX11_role_74 ⟨Nat.le_of_ble_eq_true rfl, Nat.le_of_ble_eq_true rfl⟩) hS hA hP hD (fun r19 u19 H locs hw19 hP hD hS => ?_)
          obtain ⟨i19, q19, c19, d19⟩ := u19
          have hw19 : r19 = (-3) ∧ xInv i19 c19 ∧ (∀ k, k ∉ ([102] : List Nat) → i19 k = i k) ∧ (∀ k, k ∉ ([101] : List Nat) → c19 k = c k) := hw19
          obtain ⟨hw19, hI, hei19, hec19⟩ := hw19
          have hfi : ∀ k, k ∉ ([102] : List Nat) → i19 k = i k := fr_z hfi hei19 (by decide +kernel) (by decide +kernel)
          have hfc : ∀ k, k ∉ ([101] : List Nat) → c19 k = c k := fr_z hfc hec19 (by decide +kernel) (by decide +kernel)
          have hw19 : r19 = (-3) := hw19
          subst hw19
          exact rw_iret (i19, q19, c19, d19) hx hb hr hlocks hS (hK.sub (tys' := []) [] rfl) hP hD dX11_role_77 ⟨trivial, hI, fr_w hfi (by decide +kernel), fr_w hfc (by decide +kernel), (show RoW (c 164) (c19 164) w n1 w2 (i 165) (i 111) ((-3) : Int32) (RBx (c 108) (c 106) (c 162) (c 163) w n1 w2) from Or.inr (Or.inl ⟨by unfold RA; omega, by unfold RBx; omega, by decide, hfc 164 (by decide +kernel)⟩))⟩
      · have f5 := mt (ti_eq (a := w2.toInt) (b := (-9)) rfl (by decide +kernel)).mpr c5
        refine lv_aload_n hx hb dX11_role_39 rfl (lv_at hl 0 rfl) ?_
        refine xgT_X_world hx hb hts (fun _ h => List.mem_cons_of_mem _ (List.mem_append_left _ (List.mem_append_left _ (List.mem_append_right _ h)))) hown hK hP (hts (.fieldLink RX11 10 "TalePlay" "world" "LTalePlay$World;") (List.mem_cons_of_mem _ (List.mem_append_left _ (List.mem_append_left _ (List.mem_append_left _ (List.mem_append_left _ (List.mem_of_getElem? (i := 8) rfl))))))) dX11_role_40 ?_
        refine lv_iload_n hx hb dX11_role_43 rfl (lv_at hl 3 rfl) ?_
        refine ro_calli (va_runV (As := [.int w2]) (rest := []) ⟨hx, hb, hml, hown, hts⟩ (x_X10_sortOf_e l D H.size .null a t i q c d w2 hI ) (cwV 1 hts gm_X11_role_e_X10_sortOf_e_125 rfl rfl rfl (by decide +kernel) ⟨Nat.le_of_ble_eq_true rfl, Nat.le_of_ble_eq_true rfl⟩) (yA_V hN (xZ_k hZ hS hA) (xkT_W hK) (xuT_W (sk := sk) hP) (ci := 10) (q0 := 0) rfl rfl) rfl rfl hl.1 rfl (lv_room (Nat.le_of_ble_eq_true rfl)) dX11_role_44 ⟨Nat.le_of_ble_eq_true rfl, Nat.le_of_ble_eq_true rfl⟩) hS hA hP (fun r20 u20 H locs hw20 hP hS => ?_)
        have hw20 : (((r20.toInt = -9 ∧ ¬ (0 ≤ w2.toInt ∧ w2.toInt < (i 111).toInt)) ∨ (0 ≤ r20.toInt ∧ r20.toInt ≤ 5 ∧ 0 ≤ w2.toInt ∧ w2.toInt < (i 111).toInt)) ∧ (SO (c 106) (c 108) (i 111).toInt w2.toInt r20.toInt)) := hw20
        obtain ⟨hw20, hr20_0⟩ := hw20
        have hr20_0 : SO (c 106) (c 108) (i 111).toInt w2.toInt r20.toInt := hr20_0
        have how : r20.toInt = (c 106 (c 108 w2.toInt.toNat).toNatClampNeg).toInt := by rcases hr20_0 with h9 | h9; (· exact h9.2.2); (· exfalso; omega)
        refine lv_if_ne (tgt := 56) hx hb dX11_role_47 (by decide +kernel) (fun c21 => ?_) (fun c21 => ?_)
        · have f21 := mt (ti_eq (a := r20.toInt) (b := 0) rfl (by decide +kernel)).mpr c21
          refine lv_iload_n hx hb dX11_role_56 rfl (lv_at hl 2 rfl) ?_
          refine lv_aload_n hx hb dX11_role_57 rfl (lv_at hl 0 rfl) ?_
          refine xgT_X_casts hx hb hts (fun _ h => List.mem_cons_of_mem _ (List.mem_append_left _ (List.mem_append_left _ (List.mem_append_right _ h)))) hown hK hP (hts (.fieldLink RX11 60 "TalePlay" "casts" "LTalePlay$Casts;") (List.mem_cons_of_mem _ (List.mem_append_left _ (List.mem_append_left _ (List.mem_append_left _ (List.mem_append_left _ (List.mem_of_getElem? (i := 0) rfl))))))) dX11_role_58 ?_
          refine xgT_C_lengths hx hb hts (fun _ h => List.mem_cons_of_mem _ (List.mem_append_left _ (List.mem_append_right _ h))) hown hK hP (hts (.fieldLink RX11 340 "TalePlay$Casts" "lengths" "[I") (List.mem_cons_of_mem _ (List.mem_append_left _ (List.mem_append_left _ (List.mem_append_left _ (List.mem_append_left _ (List.mem_of_getElem? (i := 6) rfl))))))) dX11_role_61 ?_
          refine lv_iload_n hx hb dX11_role_64 rfl (lv_at hl 1 rfl) ?_
          refine xlT_163 hx hb hK hP (vp_in_iff.mpr (by have h9 : w.toInt = w.toInt := rfl; omega)) dX11_role_65 (fun x22 ex22 => ?_)
          have rx22 : 0 ≤ x22.toInt ∧ x22.toInt ≤ 12 := by rw [ex22]; exact hI.2 163 _
          have gx22 : (c 163 (w : Int32).toNatClampNeg).toInt = x22.toInt := (congrArg Int32.toInt ex22).symm
          have hPc := hP.sub (ws' := []) [] rfl
          have hKc := hK.sub (tys' := []) [] rfl
          refine ro_calli (va_runS (As := [.int n1, .int x22]) (rest := []) ⟨hx, hb, hml, hown, hts⟩ (c_X11_isBelow l D H.size n1 x22 n1.toInt x22.toInt rfl rfl) (va_cwS 2 hts gm_X11_role_e_X11_isBelow_91 rfl rfl rfl (by decide +kernel) ⟨Nat.le_of_ble_eq_true rfl, Nat.le_of_ble_eq_true rfl⟩) (pA_S hKc hPc) rfl rfl hl.1 rfl (lv_room (Nat.le_of_ble_eq_true rfl)) dX11_role_66 ⟨Nat.le_of_ble_eq_true rfl, Nat.le_of_ble_eq_true rfl⟩) hS hA hP (fun r24 u24 H locs hw24 hP hS => ?_)
          have hw24 : r24 = if (0 ≤ n1.toInt ∧ n1.toInt < x22.toInt) then 1 else 0 := hw24
          refine lv_if_ne (tgt := 78) hx hb dX11_role_69 (by decide +kernel) (fun c25 => ?_) (fun c25 => ?_)
          · have f25 := fl_t hw24 c25
            refine lv_iload_n hx hb dX11_role_78 rfl (lv_at hl 3 rfl) ?_
            refine lv_bipush (v := (-9)) hx hb dX11_role_79 (by decide +kernel) ?_
            refine lv_icmp_eq (tgt := 111) hx hb dX11_role_81 (by decide +kernel) (fun c26 => ?_) (fun c26 => ?_)
            · have f26 := (ti_eq (a := w2.toInt) (b := (-9)) rfl (by decide +kernel)).mp c26
              refine lv_aload_n hx hb dX11_role_111 rfl (lv_at hl 0 rfl) ?_
              refine xgT_X_casts hx hb hts (fun _ h => List.mem_cons_of_mem _ (List.mem_append_left _ (List.mem_append_left _ (List.mem_append_right _ h)))) hown hK hP (hts (.fieldLink RX11 60 "TalePlay" "casts" "LTalePlay$Casts;") (List.mem_cons_of_mem _ (List.mem_append_left _ (List.mem_append_left _ (List.mem_append_left _ (List.mem_append_left _ (List.mem_of_getElem? (i := 0) rfl))))))) dX11_role_112 ?_
              refine xgT_C_roles hx hb hts (fun _ h => List.mem_cons_of_mem _ (List.mem_append_left _ (List.mem_append_right _ h))) hown hK hP (hts (.fieldLink RX11 347 "TalePlay$Casts" "roles" "[I") (List.mem_cons_of_mem _ (List.mem_append_left _ (List.mem_append_left _ (List.mem_append_left _ (List.mem_append_left _ (List.mem_of_getElem? (i := 7) rfl))))))) dX11_role_115 ?_
              refine lv_iload_n hx hb dX11_role_118 rfl (lv_at hl 1 rfl) ?_
              refine lv_bipush (v := 12) hx hb dX11_role_119 (by decide +kernel) ?_
              refine lv_imul hx hb dX11_role_121 ?_
              refine lv_topi (fun x27 ex27 => ?_)
              have tx27 := ti_mul (a := w.toInt) (b := 12) ex27 rfl (by decide +kernel) (by omega) (by omega)
              refine lv_iload_n hx hb dX11_role_122 rfl (lv_at hl 2 rfl) ?_
              refine lv_iadd hx hb dX11_role_123 ?_
              refine lv_topi (fun x28 ex28 => ?_)
              have tx28 := ti_add (a := (w.toInt * 12)) (b := n1.toInt) ex28 tx27 rfl (by omega) (by omega)
              refine lv_iload_n hx hb dX11_role_124 rfl (lv_at hl 3 rfl) ?_
              refine xsT_164 hx hb hK hP hD hS (vp_in_iff.mpr (by have h9 : x28.toInt = ((w.toInt * 12) + n1.toInt) := tx28; omega)) dX11_role_125 (fun H locs hP hD hS => ?_)
              have hI := xInv_c hI (k := 164) (j := (x28 : Int32).toNatClampNeg) (x := w2) (show (w2 : Int32).toInt = -9 ∨ (0 ≤ (w2 : Int32).toInt ∧ (w2 : Int32).toInt ≤ 29) from by omega)
              have hfc : ∀ k, k ∉ ([164] : List Nat) → (updA c 164 (x28 : Int32).toNatClampNeg w2) k = c k := fr_cz hfc (by decide +kernel) (by decide +kernel)
              refine lv_iconst (v := 1) hx hb dX11_role_126 (by decide +kernel) ?_
              exact rw_iret (i, q, (updA c 164 (x28 : Int32).toNatClampNeg w2), d) hx hb hr hlocks hS (hK.sub (tys' := []) [] rfl) hP hD dX11_role_127 ⟨trivial, hI, fr_w hfi (by decide +kernel), fr_w hfc (by decide +kernel), (show RoW (c 164) ((updA c 164 (x28 : Int32).toNatClampNeg w2) 164) w n1 w2 (i 165) (i 111) (1 : Int32) (RBx (c 108) (c 106) (c 162) (c 163) w n1 w2) from Or.inr (Or.inr ⟨by unfold RA; omega, by unfold RBx; omega, by decide, by show upd (c 164) (x28 : Int32).toNatClampNeg w2 = _; rw [cl_t (show (x28 : Int32).toInt = w.toInt * 12 + n1.toInt from by omega)]⟩))⟩
            · have f26 := mt (ti_eq (a := w2.toInt) (b := (-9)) rfl (by decide +kernel)).mpr c26
              refine lv_aload_n hx hb dX11_role_84 rfl (lv_at hl 0 rfl) ?_
              refine xgT_X_world hx hb hts (fun _ h => List.mem_cons_of_mem _ (List.mem_append_left _ (List.mem_append_left _ (List.mem_append_right _ h)))) hown hK hP (hts (.fieldLink RX11 10 "TalePlay" "world" "LTalePlay$World;") (List.mem_cons_of_mem _ (List.mem_append_left _ (List.mem_append_left _ (List.mem_append_left _ (List.mem_append_left _ (List.mem_of_getElem? (i := 8) rfl))))))) dX11_role_85 ?_
              refine lv_iload_n hx hb dX11_role_88 rfl (lv_at hl 3 rfl) ?_
              refine lv_aload_n hx hb dX11_role_89 rfl (lv_at hl 0 rfl) ?_
              refine xgT_X_casts hx hb hts (fun _ h => List.mem_cons_of_mem _ (List.mem_append_left _ (List.mem_append_left _ (List.mem_append_right _ h)))) hown hK hP (hts (.fieldLink RX11 60 "TalePlay" "casts" "LTalePlay$Casts;") (List.mem_cons_of_mem _ (List.mem_append_left _ (List.mem_append_left _ (List.mem_append_left _ (List.mem_append_left _ (List.mem_of_getElem? (i := 0) rfl))))))) dX11_role_90 ?_
              refine xgT_C_sorts hx hb hts (fun _ h => List.mem_cons_of_mem _ (List.mem_append_left _ (List.mem_append_right _ h))) hown hK hP (hts (.fieldLink RX11 343 "TalePlay$Casts" "sorts" "[I") (List.mem_cons_of_mem _ (List.mem_append_left _ (List.mem_append_left _ (List.mem_append_left _ (List.mem_append_left _ (List.mem_of_getElem? (i := 9) rfl))))))) dX11_role_93 ?_
              refine lv_iload_n hx hb dX11_role_96 rfl (lv_at hl 1 rfl) ?_
              refine xlT_162 hx hb hK hP (vp_in_iff.mpr (by have h9 : w.toInt = w.toInt := rfl; omega)) dX11_role_97 (fun x29 ex29 => ?_)
              have rx29 : 0 ≤ x29.toInt ∧ x29.toInt ≤ 5 := by rw [ex29]; exact hI.2 162 _
              have gx29 : (c 162 (w : Int32).toNatClampNeg).toInt = x29.toInt := (congrArg Int32.toInt ex29).symm
              refine ro_calli (va_runV (As := [.int w2, .int x29]) (rest := []) ⟨hx, hb, hml, hown, hts⟩ (x_X10_isOfSort_e l D H.size .null a t i q c d w2 x29 hI (show 0 ≤ w2.toInt ∧ w2.toInt < ((i 111) : Int32).toInt from by omega)) (cwV 2 hts gm_X11_role_e_X10_isOfSort_e_344 rfl rfl rfl (by decide +kernel) ⟨Nat.le_of_ble_eq_true rfl, Nat.le_of_ble_eq_true rfl⟩) (yA_V hN (xZ_k hZ hS hA) (xkT_W hK) (xuT_W (sk := sk) hP) (ci := 10) (q0 := 0) rfl rfl) rfl rfl hl.1 rfl (lv_room (Nat.le_of_ble_eq_true rfl)) dX11_role_98 ⟨Nat.le_of_ble_eq_true rfl, Nat.le_of_ble_eq_true rfl⟩) hS hA hP (fun r30 u30 H locs hw30 hP hS => ?_)
              have hw30 : ((r30.toInt = 1 ∧ ((c 106 (c 108 w2.toInt.toNat).toNatClampNeg).toInt = x29.toInt ∨ (x29.toInt = 1 ∧ 1 < (c 106 (c 108 w2.toInt.toNat).toNatClampNeg).toInt))) ∨ (r30.toInt = 0 ∧ ¬ ((c 106 (c 108 w2.toInt.toNat).toNatClampNeg).toInt = x29.toInt ∨ (x29.toInt = 1 ∧ 1 < (c 106 (c 108 w2.toInt.toNat).toNatClampNeg).toInt)))) := hw30
              refine lv_if_ne (tgt := 111) hx hb dX11_role_101 (by decide +kernel) (fun c31 => ?_) (fun c31 => ?_)
              · have f31 := mt (ti_eq (a := r30.toInt) (b := 0) rfl (by decide +kernel)).mpr c31
                refine lv_aload_n hx hb dX11_role_111 rfl (lv_at hl 0 rfl) ?_
                refine xgT_X_casts hx hb hts (fun _ h => List.mem_cons_of_mem _ (List.mem_append_left _ (List.mem_append_left _ (List.mem_append_right _ h)))) hown hK hP (hts (.fieldLink RX11 60 "TalePlay" "casts" "LTalePlay$Casts;") (List.mem_cons_of_mem _ (List.mem_append_left _ (List.mem_append_left _ (List.mem_append_left _ (List.mem_append_left _ (List.mem_of_getElem? (i := 0) rfl))))))) dX11_role_112 ?_
                refine xgT_C_roles hx hb hts (fun _ h => List.mem_cons_of_mem _ (List.mem_append_left _ (List.mem_append_right _ h))) hown hK hP (hts (.fieldLink RX11 347 "TalePlay$Casts" "roles" "[I") (List.mem_cons_of_mem _ (List.mem_append_left _ (List.mem_append_left _ (List.mem_append_left _ (List.mem_append_left _ (List.mem_of_getElem? (i := 7) rfl))))))) dX11_role_115 ?_
                refine lv_iload_n hx hb dX11_role_118 rfl (lv_at hl 1 rfl) ?_
                refine lv_bipush (v := 12) hx hb dX11_role_119 (by decide +kernel) ?_
                refine lv_imul hx hb dX11_role_121 ?_
                refine lv_topi (fun x32 ex32 => ?_)
                have tx32 := ti_mul (a := w.toInt) (b := 12) ex32 rfl (by decide +kernel) (by omega) (by omega)
                refine lv_iload_n hx hb dX11_role_122 rfl (lv_at hl 2 rfl) ?_
                refine lv_iadd hx hb dX11_role_123 ?_
                refine lv_topi (fun x33 ex33 => ?_)
                have tx33 := ti_add (a := (w.toInt * 12)) (b := n1.toInt) ex33 tx32 rfl (by omega) (by omega)
                refine lv_iload_n hx hb dX11_role_124 rfl (lv_at hl 3 rfl) ?_
                refine xsT_164 hx hb hK hP hD hS (vp_in_iff.mpr (by have h9 : x33.toInt = ((w.toInt * 12) + n1.toInt) := tx33; omega)) dX11_role_125 (fun H locs hP hD hS => ?_)
                have hI := xInv_c hI (k := 164) (j := (x33 : Int32).toNatClampNeg) (x := w2) (show (w2 : Int32).toInt = -9 ∨ (0 ≤ (w2 : Int32).toInt ∧ (w2 : Int32).toInt ≤ 29) from by omega)
                have hfc : ∀ k, k ∉ ([164] : List Nat) → (updA c 164 (x33 : Int32).toNatClampNeg w2) k = c k := fr_cz hfc (by decide +kernel) (by decide +kernel)
                refine lv_iconst (v := 1) hx hb dX11_role_126 (by decide +kernel) ?_
                exact rw_iret (i, q, (updA c 164 (x33 : Int32).toNatClampNeg w2), d) hx hb hr hlocks hS (hK.sub (tys' := []) [] rfl) hP hD dX11_role_127 ⟨trivial, hI, fr_w hfi (by decide +kernel), fr_w hfc (by decide +kernel), (show RoW (c 164) ((updA c 164 (x33 : Int32).toNatClampNeg w2) 164) w n1 w2 (i 165) (i 111) (1 : Int32) (RBx (c 108) (c 106) (c 162) (c 163) w n1 w2) from Or.inr (Or.inr ⟨by unfold RA; omega, by unfold RBx; omega, by decide, by show upd (c 164) (x33 : Int32).toNatClampNeg w2 = _; rw [cl_t (show (x33 : Int32).toInt = w.toInt * 12 + n1.toInt from by omega)]⟩))⟩
              · have f31 := (ti_eq (a := r30.toInt) (b := 0) rfl (by decide +kernel)).mp c31
                refine lv_aload_n hx hb dX11_role_104 rfl (lv_at hl 0 rfl) ?_
                refine lv_bipush (v := 6) hx hb dX11_role_105 (by decide +kernel) ?_
                refine al_calli (va_runV (As := [.int 6]) (rest := []) ⟨hx, hb, hml, hown, hts⟩ (x_X11_answerFinding l D H.size sk a t i q c d 6 hI (show 1 ≤ 6 ∧ 6 ≤ 6 from by decide +kernel)) (cwV 1 hts gm_X11_role_e_X11_answerFinding_128 rfl rfl rfl (by decide +kernel) ⟨Nat.le_of_ble_eq_true rfl, Nat.le_of_ble_eq_true rfl⟩) (yB_V hN (xZ_k hZ hS hA) (xZ_n hZ hD) hK hP hD (ci := 11) (q0 := 0) rfl rfl) rfl rfl hl.1 rfl (lv_room (Nat.le_of_ble_eq_true rfl)) dX11_role_107 ⟨Nat.le_of_ble_eq_true rfl, Nat.le_of_ble_eq_true rfl⟩) hS hA hP hD (fun r34 u34 H locs hw34 hP hD hS => ?_)
                obtain ⟨i34, q34, c34, d34⟩ := u34
                have hw34 : r34 = (-3) ∧ xInv i34 c34 ∧ (∀ k, k ∉ ([102] : List Nat) → i34 k = i k) ∧ (∀ k, k ∉ ([101] : List Nat) → c34 k = c k) := hw34
                obtain ⟨hw34, hI, hei34, hec34⟩ := hw34
                have hfi : ∀ k, k ∉ ([102] : List Nat) → i34 k = i k := fr_z hfi hei34 (by decide +kernel) (by decide +kernel)
                have hfc : ∀ k, k ∉ ([101] : List Nat) → c34 k = c k := fr_z hfc hec34 (by decide +kernel) (by decide +kernel)
                have hw34 : r34 = (-3) := hw34
                subst hw34
                exact rw_iret (i34, q34, c34, d34) hx hb hr hlocks hS (hK.sub (tys' := []) [] rfl) hP hD dX11_role_110 ⟨trivial, hI, fr_w hfi (by decide +kernel), fr_w hfc (by decide +kernel), (show RoW (c 164) (c34 164) w n1 w2 (i 165) (i 111) ((-3) : Int32) (RBx (c 108) (c 106) (c 162) (c 163) w n1 w2) from Or.inr (Or.inl ⟨by unfold RA; omega, by unfold RBx; omega, by decide, hfc 164 (by decide +kernel)⟩))⟩
          · have f25 := fl_f hw24 c25
            refine lv_aload_n hx hb dX11_role_72 rfl (lv_at hl 0 rfl) ?_
            refine lv_iconst (v := 2) hx hb dX11_role_73 (by decide +kernel) ?_
            refine al_calli (va_runV (As := [.int 2]) (rest := []) ⟨hx, hb, hml, hown, hts⟩ (x_X11_answerFinding l D H.size sk a t i q c d 2 hI (show 1 ≤ 2 ∧ 2 ≤ 6 from by decide +kernel)) (cwV 1 hts gm_X11_role_e_X11_answerFinding_128 rfl rfl rfl (by decide +kernel) ⟨Nat.le_of_ble_eq_true rfl, Nat.le_of_ble_eq_true rfl⟩) (yB_V hN (xZ_k hZ hS hA) (xZ_n hZ hD) hK hP hD (ci := 11) (q0 := 0) rfl rfl) rfl rfl hl.1 rfl (lv_room (Nat.le_of_ble_eq_true rfl)) dX11_role_74 ⟨Nat.le_of_ble_eq_true rfl, Nat.le_of_ble_eq_true rfl⟩) hS hA hP hD (fun r35 u35 H locs hw35 hP hD hS => ?_)
            obtain ⟨i35, q35, c35, d35⟩ := u35
            have hw35 : r35 = (-3) ∧ xInv i35 c35 ∧ (∀ k, k ∉ ([102] : List Nat) → i35 k = i k) ∧ (∀ k, k ∉ ([101] : List Nat) → c35 k = c k) := hw35
            obtain ⟨hw35, hI, hei35, hec35⟩ := hw35
            have hfi : ∀ k, k ∉ ([102] : List Nat) → i35 k = i k := fr_z hfi hei35 (by decide +kernel) (by decide +kernel)
            have hfc : ∀ k, k ∉ ([101] : List Nat) → c35 k = c k := fr_z hfc hec35 (by decide +kernel) (by decide +kernel)
            have hw35 : r35 = (-3) := hw35
            subst hw35
            exact rw_iret (i35, q35, c35, d35) hx hb hr hlocks hS (hK.sub (tys' := []) [] rfl) hP hD dX11_role_77 ⟨trivial, hI, fr_w hfi (by decide +kernel), fr_w hfc (by decide +kernel), (show RoW (c 164) (c35 164) w n1 w2 (i 165) (i 111) ((-3) : Int32) (RBx (c 108) (c 106) (c 162) (c 163) w n1 w2) from Or.inr (Or.inl ⟨by unfold RA; omega, by unfold RBx; omega, by decide, hfc 164 (by decide +kernel)⟩))⟩
        · have f21 := (ti_eq (a := r20.toInt) (b := 0) rfl (by decide +kernel)).mp c21
          refine lv_aload_n hx hb dX11_role_50 rfl (lv_at hl 0 rfl) ?_
          refine lv_iconst (v := 3) hx hb dX11_role_51 (by decide +kernel) ?_
          refine al_calli (va_runV (As := [.int 3]) (rest := []) ⟨hx, hb, hml, hown, hts⟩ (x_X11_answerFinding l D H.size sk a t i q c d 3 hI (show 1 ≤ 3 ∧ 3 ≤ 6 from by decide +kernel)) (cwV 1 hts gm_X11_role_e_X11_answerFinding_128 rfl rfl rfl (by decide +kernel) ⟨Nat.le_of_ble_eq_true rfl, Nat.le_of_ble_eq_true rfl⟩) (yB_V hN (xZ_k hZ hS hA) (xZ_n hZ hD) hK hP hD (ci := 11) (q0 := 0) rfl rfl) rfl rfl hl.1 rfl (lv_room (Nat.le_of_ble_eq_true rfl)) dX11_role_52 ⟨Nat.le_of_ble_eq_true rfl, Nat.le_of_ble_eq_true rfl⟩) hS hA hP hD (fun r36 u36 H locs hw36 hP hD hS => ?_)
          obtain ⟨i36, q36, c36, d36⟩ := u36
          have hw36 : r36 = (-3) ∧ xInv i36 c36 ∧ (∀ k, k ∉ ([102] : List Nat) → i36 k = i k) ∧ (∀ k, k ∉ ([101] : List Nat) → c36 k = c k) := hw36
          obtain ⟨hw36, hI, hei36, hec36⟩ := hw36
          have hfi : ∀ k, k ∉ ([102] : List Nat) → i36 k = i k := fr_z hfi hei36 (by decide +kernel) (by decide +kernel)
          have hfc : ∀ k, k ∉ ([101] : List Nat) → c36 k = c k := fr_z hfc hec36 (by decide +kernel) (by decide +kernel)
          have hw36 : r36 = (-3) := hw36
          subst hw36
          exact rw_iret (i36, q36, c36, d36) hx hb hr hlocks hS (hK.sub (tys' := []) [] rfl) hP hD dX11_role_55 ⟨trivial, hI, fr_w hfi (by decide +kernel), fr_w hfc (by decide +kernel), (show RoW (c 164) (c36 164) w n1 w2 (i 165) (i 111) ((-3) : Int32) (RBx (c 108) (c 106) (c 162) (c 163) w n1 w2) from Or.inr (Or.inl ⟨by unfold RA; omega, by unfold RBx; omega, by decide, hfc 164 (by decide +kernel)⟩))⟩
    · have f4 := mt (ti_eq (a := w2.toInt) (b := (-9)) rfl (by decide +kernel)).mpr c4
      refine lv_aload_n hx hb dX11_role_20 rfl (lv_at hl 0 rfl) ?_
      refine xgT_X_world hx hb hts (fun _ h => List.mem_cons_of_mem _ (List.mem_append_left _ (List.mem_append_left _ (List.mem_append_right _ h)))) hown hK hP (hts (.fieldLink RX11 10 "TalePlay" "world" "LTalePlay$World;") (List.mem_cons_of_mem _ (List.mem_append_left _ (List.mem_append_left _ (List.mem_append_left _ (List.mem_append_left _ (List.mem_of_getElem? (i := 8) rfl))))))) dX11_role_21 ?_
      refine lv_iload_n hx hb dX11_role_24 rfl (lv_at hl 3 rfl) ?_
      refine ro_calli (va_runV (As := [.int w2]) (rest := []) ⟨hx, hb, hml, hown, hts⟩ (x_X10_hasObject l D H.size .null a t i q c d w2 hI ) (cwV 1 hts gm_X11_role_e_X10_hasObject_109 rfl rfl rfl (by decide +kernel) ⟨Nat.le_of_ble_eq_true rfl, Nat.le_of_ble_eq_true rfl⟩) (yA_V hN (xZ_k hZ hS hA) (xkT_W hK) (xuT_W (sk := sk) hP) (ci := 10) (q0 := 0) rfl rfl) rfl rfl hl.1 rfl (lv_room (Nat.le_of_ble_eq_true rfl)) dX11_role_25 ⟨Nat.le_of_ble_eq_true rfl, Nat.le_of_ble_eq_true rfl⟩) hS hA hP (fun r37 u37 H locs hw37 hP hS => ?_)
      have hw37 : r37 = if (0 ≤ w2.toInt ∧ w2.toInt < (i 111).toInt) then 1 else 0 := hw37
      refine lv_if_ne (tgt := 33) hx hb dX11_role_28 (by decide +kernel) (fun c38 => ?_) (fun c38 => ?_)
      · have f38 := fl_t hw37 c38
        refine lv_iload_n hx hb dX11_role_33 rfl (lv_at hl 3 rfl) ?_
        refine lv_bipush (v := (-9)) hx hb dX11_role_34 (by decide +kernel) ?_
        refine lv_icmp_eq (tgt := 56) hx hb dX11_role_36 (by decide +kernel) (fun c39 => ?_) (fun c39 => ?_)
        · have f39 := (ti_eq (a := w2.toInt) (b := (-9)) rfl (by decide +kernel)).mp c39
          refine lv_iload_n hx hb dX11_role_56 rfl (lv_at hl 2 rfl) ?_
          refine lv_aload_n hx hb dX11_role_57 rfl (lv_at hl 0 rfl) ?_
          refine xgT_X_casts hx hb hts (fun _ h => List.mem_cons_of_mem _ (List.mem_append_left _ (List.mem_append_left _ (List.mem_append_right _ h)))) hown hK hP (hts (.fieldLink RX11 60 "TalePlay" "casts" "LTalePlay$Casts;") (List.mem_cons_of_mem _ (List.mem_append_left _ (List.mem_append_left _ (List.mem_append_left _ (List.mem_append_left _ (List.mem_of_getElem? (i := 0) rfl))))))) dX11_role_58 ?_
          refine xgT_C_lengths hx hb hts (fun _ h => List.mem_cons_of_mem _ (List.mem_append_left _ (List.mem_append_right _ h))) hown hK hP (hts (.fieldLink RX11 340 "TalePlay$Casts" "lengths" "[I") (List.mem_cons_of_mem _ (List.mem_append_left _ (List.mem_append_left _ (List.mem_append_left _ (List.mem_append_left _ (List.mem_of_getElem? (i := 6) rfl))))))) dX11_role_61 ?_
          refine lv_iload_n hx hb dX11_role_64 rfl (lv_at hl 1 rfl) ?_
          refine xlT_163 hx hb hK hP (vp_in_iff.mpr (by have h9 : w.toInt = w.toInt := rfl; omega)) dX11_role_65 (fun x40 ex40 => ?_)
          have rx40 : 0 ≤ x40.toInt ∧ x40.toInt ≤ 12 := by rw [ex40]; exact hI.2 163 _
          have gx40 : (c 163 (w : Int32).toNatClampNeg).toInt = x40.toInt := (congrArg Int32.toInt ex40).symm
          have hPc := hP.sub (ws' := []) [] rfl
          have hKc := hK.sub (tys' := []) [] rfl
          refine ro_calli (va_runS (As := [.int n1, .int x40]) (rest := []) ⟨hx, hb, hml, hown, hts⟩ (c_X11_isBelow l D H.size n1 x40 n1.toInt x40.toInt rfl rfl) (va_cwS 2 hts gm_X11_role_e_X11_isBelow_91 rfl rfl rfl (by decide +kernel) ⟨Nat.le_of_ble_eq_true rfl, Nat.le_of_ble_eq_true rfl⟩) (pA_S hKc hPc) rfl rfl hl.1 rfl (lv_room (Nat.le_of_ble_eq_true rfl)) dX11_role_66 ⟨Nat.le_of_ble_eq_true rfl, Nat.le_of_ble_eq_true rfl⟩) hS hA hP (fun r42 u42 H locs hw42 hP hS => ?_)
          have hw42 : r42 = if (0 ≤ n1.toInt ∧ n1.toInt < x40.toInt) then 1 else 0 := hw42
          refine lv_if_ne (tgt := 78) hx hb dX11_role_69 (by decide +kernel) (fun c43 => ?_) (fun c43 => ?_)
          · have f43 := fl_t hw42 c43
            refine lv_iload_n hx hb dX11_role_78 rfl (lv_at hl 3 rfl) ?_
            refine lv_bipush (v := (-9)) hx hb dX11_role_79 (by decide +kernel) ?_
            refine lv_icmp_eq (tgt := 111) hx hb dX11_role_81 (by decide +kernel) (fun c44 => ?_) (fun c44 => ?_)
            · have f44 := (ti_eq (a := w2.toInt) (b := (-9)) rfl (by decide +kernel)).mp c44
              refine lv_aload_n hx hb dX11_role_111 rfl (lv_at hl 0 rfl) ?_
              refine xgT_X_casts hx hb hts (fun _ h => List.mem_cons_of_mem _ (List.mem_append_left _ (List.mem_append_left _ (List.mem_append_right _ h)))) hown hK hP (hts (.fieldLink RX11 60 "TalePlay" "casts" "LTalePlay$Casts;") (List.mem_cons_of_mem _ (List.mem_append_left _ (List.mem_append_left _ (List.mem_append_left _ (List.mem_append_left _ (List.mem_of_getElem? (i := 0) rfl))))))) dX11_role_112 ?_
              refine xgT_C_roles hx hb hts (fun _ h => List.mem_cons_of_mem _ (List.mem_append_left _ (List.mem_append_right _ h))) hown hK hP (hts (.fieldLink RX11 347 "TalePlay$Casts" "roles" "[I") (List.mem_cons_of_mem _ (List.mem_append_left _ (List.mem_append_left _ (List.mem_append_left _ (List.mem_append_left _ (List.mem_of_getElem? (i := 7) rfl))))))) dX11_role_115 ?_
              refine lv_iload_n hx hb dX11_role_118 rfl (lv_at hl 1 rfl) ?_
              refine lv_bipush (v := 12) hx hb dX11_role_119 (by decide +kernel) ?_
              refine lv_imul hx hb dX11_role_121 ?_
              refine lv_topi (fun x45 ex45 => ?_)
              have tx45 := ti_mul (a := w.toInt) (b := 12) ex45 rfl (by decide +kernel) (by omega) (by omega)
              refine lv_iload_n hx hb dX11_role_122 rfl (lv_at hl 2 rfl) ?_
              refine lv_iadd hx hb dX11_role_123 ?_
              refine lv_topi (fun x46 ex46 => ?_)
              have tx46 := ti_add (a := (w.toInt * 12)) (b := n1.toInt) ex46 tx45 rfl (by omega) (by omega)
              refine lv_iload_n hx hb dX11_role_124 rfl (lv_at hl 3 rfl) ?_
              refine xsT_164 hx hb hK hP hD hS (vp_in_iff.mpr (by have h9 : x46.toInt = ((w.toInt * 12) + n1.toInt) := tx46; omega)) dX11_role_125 (fun H locs hP hD hS => ?_)
              have hI := xInv_c hI (k := 164) (j := (x46 : Int32).toNatClampNeg) (x := w2) (show (w2 : Int32).toInt = -9 ∨ (0 ≤ (w2 : Int32).toInt ∧ (w2 : Int32).toInt ≤ 29) from by omega)
              have hfc : ∀ k, k ∉ ([164] : List Nat) → (updA c 164 (x46 : Int32).toNatClampNeg w2) k = c k := fr_cz hfc (by decide +kernel) (by decide +kernel)
              refine lv_iconst (v := 1) hx hb dX11_role_126 (by decide +kernel) ?_
              exact rw_iret (i, q, (updA c 164 (x46 : Int32).toNatClampNeg w2), d) hx hb hr hlocks hS (hK.sub (tys' := []) [] rfl) hP hD dX11_role_127 ⟨trivial, hI, fr_w hfi (by decide +kernel), fr_w hfc (by decide +kernel), (show RoW (c 164) ((updA c 164 (x46 : Int32).toNatClampNeg w2) 164) w n1 w2 (i 165) (i 111) (1 : Int32) (RBx (c 108) (c 106) (c 162) (c 163) w n1 w2) from Or.inr (Or.inr ⟨by unfold RA; omega, by unfold RBx; omega, by decide, by show upd (c 164) (x46 : Int32).toNatClampNeg w2 = _; rw [cl_t (show (x46 : Int32).toInt = w.toInt * 12 + n1.toInt from by omega)]⟩))⟩
            · have f44 := mt (ti_eq (a := w2.toInt) (b := (-9)) rfl (by decide +kernel)).mpr c44
              refine lv_aload_n hx hb dX11_role_84 rfl (lv_at hl 0 rfl) ?_
              refine xgT_X_world hx hb hts (fun _ h => List.mem_cons_of_mem _ (List.mem_append_left _ (List.mem_append_left _ (List.mem_append_right _ h)))) hown hK hP (hts (.fieldLink RX11 10 "TalePlay" "world" "LTalePlay$World;") (List.mem_cons_of_mem _ (List.mem_append_left _ (List.mem_append_left _ (List.mem_append_left _ (List.mem_append_left _ (List.mem_of_getElem? (i := 8) rfl))))))) dX11_role_85 ?_
              refine lv_iload_n hx hb dX11_role_88 rfl (lv_at hl 3 rfl) ?_
              refine lv_aload_n hx hb dX11_role_89 rfl (lv_at hl 0 rfl) ?_
              refine xgT_X_casts hx hb hts (fun _ h => List.mem_cons_of_mem _ (List.mem_append_left _ (List.mem_append_left _ (List.mem_append_right _ h)))) hown hK hP (hts (.fieldLink RX11 60 "TalePlay" "casts" "LTalePlay$Casts;") (List.mem_cons_of_mem _ (List.mem_append_left _ (List.mem_append_left _ (List.mem_append_left _ (List.mem_append_left _ (List.mem_of_getElem? (i := 0) rfl))))))) dX11_role_90 ?_
              refine xgT_C_sorts hx hb hts (fun _ h => List.mem_cons_of_mem _ (List.mem_append_left _ (List.mem_append_right _ h))) hown hK hP (hts (.fieldLink RX11 343 "TalePlay$Casts" "sorts" "[I") (List.mem_cons_of_mem _ (List.mem_append_left _ (List.mem_append_left _ (List.mem_append_left _ (List.mem_append_left _ (List.mem_of_getElem? (i := 9) rfl))))))) dX11_role_93 ?_
              refine lv_iload_n hx hb dX11_role_96 rfl (lv_at hl 1 rfl) ?_
              refine xlT_162 hx hb hK hP (vp_in_iff.mpr (by have h9 : w.toInt = w.toInt := rfl; omega)) dX11_role_97 (fun x47 ex47 => ?_)
              have rx47 : 0 ≤ x47.toInt ∧ x47.toInt ≤ 5 := by rw [ex47]; exact hI.2 162 _
              have gx47 : (c 162 (w : Int32).toNatClampNeg).toInt = x47.toInt := (congrArg Int32.toInt ex47).symm
              refine ro_calli (va_runV (As := [.int w2, .int x47]) (rest := []) ⟨hx, hb, hml, hown, hts⟩ (x_X10_isOfSort_e l D H.size .null a t i q c d w2 x47 hI (show 0 ≤ w2.toInt ∧ w2.toInt < ((i 111) : Int32).toInt from by omega)) (cwV 2 hts gm_X11_role_e_X10_isOfSort_e_344 rfl rfl rfl (by decide +kernel) ⟨Nat.le_of_ble_eq_true rfl, Nat.le_of_ble_eq_true rfl⟩) (yA_V hN (xZ_k hZ hS hA) (xkT_W hK) (xuT_W (sk := sk) hP) (ci := 10) (q0 := 0) rfl rfl) rfl rfl hl.1 rfl (lv_room (Nat.le_of_ble_eq_true rfl)) dX11_role_98 ⟨Nat.le_of_ble_eq_true rfl, Nat.le_of_ble_eq_true rfl⟩) hS hA hP (fun r48 u48 H locs hw48 hP hS => ?_)
              have hw48 : ((r48.toInt = 1 ∧ ((c 106 (c 108 w2.toInt.toNat).toNatClampNeg).toInt = x47.toInt ∨ (x47.toInt = 1 ∧ 1 < (c 106 (c 108 w2.toInt.toNat).toNatClampNeg).toInt))) ∨ (r48.toInt = 0 ∧ ¬ ((c 106 (c 108 w2.toInt.toNat).toNatClampNeg).toInt = x47.toInt ∨ (x47.toInt = 1 ∧ 1 < (c 106 (c 108 w2.toInt.toNat).toNatClampNeg).toInt)))) := hw48
              refine lv_if_ne (tgt := 111) hx hb dX11_role_101 (by decide +kernel) (fun c49 => ?_) (fun c49 => ?_)
              · have f49 := mt (ti_eq (a := r48.toInt) (b := 0) rfl (by decide +kernel)).mpr c49
                refine lv_aload_n hx hb dX11_role_111 rfl (lv_at hl 0 rfl) ?_
                refine xgT_X_casts hx hb hts (fun _ h => List.mem_cons_of_mem _ (List.mem_append_left _ (List.mem_append_left _ (List.mem_append_right _ h)))) hown hK hP (hts (.fieldLink RX11 60 "TalePlay" "casts" "LTalePlay$Casts;") (List.mem_cons_of_mem _ (List.mem_append_left _ (List.mem_append_left _ (List.mem_append_left _ (List.mem_append_left _ (List.mem_of_getElem? (i := 0) rfl))))))) dX11_role_112 ?_
                refine xgT_C_roles hx hb hts (fun _ h => List.mem_cons_of_mem _ (List.mem_append_left _ (List.mem_append_right _ h))) hown hK hP (hts (.fieldLink RX11 347 "TalePlay$Casts" "roles" "[I") (List.mem_cons_of_mem _ (List.mem_append_left _ (List.mem_append_left _ (List.mem_append_left _ (List.mem_append_left _ (List.mem_of_getElem? (i := 7) rfl))))))) dX11_role_115 ?_
                refine lv_iload_n hx hb dX11_role_118 rfl (lv_at hl 1 rfl) ?_
                refine lv_bipush (v := 12) hx hb dX11_role_119 (by decide +kernel) ?_
                refine lv_imul hx hb dX11_role_121 ?_
                refine lv_topi (fun x50 ex50 => ?_)
                have tx50 := ti_mul (a := w.toInt) (b := 12) ex50 rfl (by decide +kernel) (by omega) (by omega)
                refine lv_iload_n hx hb dX11_role_122 rfl (lv_at hl 2 rfl) ?_
                refine lv_iadd hx hb dX11_role_123 ?_
                refine lv_topi (fun x51 ex51 => ?_)
                have tx51 := ti_add (a := (w.toInt * 12)) (b := n1.toInt) ex51 tx50 rfl (by omega) (by omega)
                refine lv_iload_n hx hb dX11_role_124 rfl (lv_at hl 3 rfl) ?_
                refine xsT_164 hx hb hK hP hD hS (vp_in_iff.mpr (by have h9 : x51.toInt = ((w.toInt * 12) + n1.toInt) := tx51; omega)) dX11_role_125 (fun H locs hP hD hS => ?_)
                have hI := xInv_c hI (k := 164) (j := (x51 : Int32).toNatClampNeg) (x := w2) (show (w2 : Int32).toInt = -9 ∨ (0 ≤ (w2 : Int32).toInt ∧ (w2 : Int32).toInt ≤ 29) from by omega)
                have hfc : ∀ k, k ∉ ([164] : List Nat) → (updA c 164 (x51 : Int32).toNatClampNeg w2) k = c k := fr_cz hfc (by decide +kernel) (by decide +kernel)
                refine lv_iconst (v := 1) hx hb dX11_role_126 (by decide +kernel) ?_
                exact rw_iret (i, q, (updA c 164 (x51 : Int32).toNatClampNeg w2), d) hx hb hr hlocks hS (hK.sub (tys' := []) [] rfl) hP hD dX11_role_127 ⟨trivial, hI, fr_w hfi (by decide +kernel), fr_w hfc (by decide +kernel), (show RoW (c 164) ((updA c 164 (x51 : Int32).toNatClampNeg w2) 164) w n1 w2 (i 165) (i 111) (1 : Int32) (RBx (c 108) (c 106) (c 162) (c 163) w n1 w2) from Or.inr (Or.inr ⟨by unfold RA; omega, by unfold RBx; omega, by decide, by show upd (c 164) (x51 : Int32).toNatClampNeg w2 = _; rw [cl_t (show (x51 : Int32).toInt = w.toInt * 12 + n1.toInt from by omega)]⟩))⟩
              · have f49 := (ti_eq (a := r48.toInt) (b := 0) rfl (by decide +kernel)).mp c49
                refine lv_aload_n hx hb dX11_role_104 rfl (lv_at hl 0 rfl) ?_
                refine lv_bipush (v := 6) hx hb dX11_role_105 (by decide +kernel) ?_
                refine al_calli (va_runV (As := [.int 6]) (rest := []) ⟨hx, hb, hml, hown, hts⟩ (x_X11_answerFinding l D H.size sk a t i q c d 6 hI (show 1 ≤ 6 ∧ 6 ≤ 6 from by decide +kernel)) (cwV 1 hts gm_X11_role_e_X11_answerFinding_128 rfl rfl rfl (by decide +kernel) ⟨Nat.le_of_ble_eq_true rfl, Nat.le_of_ble_eq_true rfl⟩) (yB_V hN (xZ_k hZ hS hA) (xZ_n hZ hD) hK hP hD (ci := 11) (q0 := 0) rfl rfl) rfl rfl hl.1 rfl (lv_room (Nat.le_of_ble_eq_true rfl)) dX11_role_107 ⟨Nat.le_of_ble_eq_true rfl, Nat.le_of_ble_eq_true rfl⟩) hS hA hP hD (fun r52 u52 H locs hw52 hP hD hS => ?_)
                obtain ⟨i52, q52, c52, d52⟩ := u52
                have hw52 : r52 = (-3) ∧ xInv i52 c52 ∧ (∀ k, k ∉ ([102] : List Nat) → i52 k = i k) ∧ (∀ k, k ∉ ([101] : List Nat) → c52 k = c k) := hw52
                obtain ⟨hw52, hI, hei52, hec52⟩ := hw52
                have hfi : ∀ k, k ∉ ([102] : List Nat) → i52 k = i k := fr_z hfi hei52 (by decide +kernel) (by decide +kernel)
                have hfc : ∀ k, k ∉ ([101] : List Nat) → c52 k = c k := fr_z hfc hec52 (by decide +kernel) (by decide +kernel)
                have hw52 : r52 = (-3) := hw52
                subst hw52
                exact rw_iret (i52, q52, c52, d52) hx hb hr hlocks hS (hK.sub (tys' := []) [] rfl) hP hD dX11_role_110 ⟨trivial, hI, fr_w hfi (by decide +kernel), fr_w hfc (by decide +kernel), (show RoW (c 164) (c52 164) w n1 w2 (i 165) (i 111) ((-3) : Int32) (RBx (c 108) (c 106) (c 162) (c 163) w n1 w2) from Or.inr (Or.inl ⟨by unfold RA; omega, by unfold RBx; omega, by decide, hfc 164 (by decide +kernel)⟩))⟩
          · have f43 := fl_f hw42 c43
            refine lv_aload_n hx hb dX11_role_72 rfl (lv_at hl 0 rfl) ?_
            refine lv_iconst (v := 2) hx hb dX11_role_73 (by decide +kernel) ?_
            refine al_calli (va_runV (As := [.int 2]) (rest := []) ⟨hx, hb, hml, hown, hts⟩ (x_X11_answerFinding l D H.size sk a t i q c d 2 hI (show 1 ≤ 2 ∧ 2 ≤ 6 from by decide +kernel)) (cwV 1 hts gm_X11_role_e_X11_answerFinding_128 rfl rfl rfl (by decide +kernel) ⟨Nat.le_of_ble_eq_true rfl, Nat.le_of_ble_eq_true rfl⟩) (yB_V hN (xZ_k hZ hS hA) (xZ_n hZ hD) hK hP hD (ci := 11) (q0 := 0) rfl rfl) rfl rfl hl.1 rfl (lv_room (Nat.le_of_ble_eq_true rfl)) dX11_role_74 ⟨Nat.le_of_ble_eq_true rfl, Nat.le_of_ble_eq_true rfl⟩) hS hA hP hD (fun r53 u53 H locs hw53 hP hD hS => ?_)
            obtain ⟨i53, q53, c53, d53⟩ := u53
            have hw53 : r53 = (-3) ∧ xInv i53 c53 ∧ (∀ k, k ∉ ([102] : List Nat) → i53 k = i k) ∧ (∀ k, k ∉ ([101] : List Nat) → c53 k = c k) := hw53
            obtain ⟨hw53, hI, hei53, hec53⟩ := hw53
            have hfi : ∀ k, k ∉ ([102] : List Nat) → i53 k = i k := fr_z hfi hei53 (by decide +kernel) (by decide +kernel)
            have hfc : ∀ k, k ∉ ([101] : List Nat) → c53 k = c k := fr_z hfc hec53 (by decide +kernel) (by decide +kernel)
            have hw53 : r53 = (-3) := hw53
            subst hw53
            exact rw_iret (i53, q53, c53, d53) hx hb hr hlocks hS (hK.sub (tys' := []) [] rfl) hP hD dX11_role_77 ⟨trivial, hI, fr_w hfi (by decide +kernel), fr_w hfc (by decide +kernel), (show RoW (c 164) (c53 164) w n1 w2 (i 165) (i 111) ((-3) : Int32) (RBx (c 108) (c 106) (c 162) (c 163) w n1 w2) from Or.inr (Or.inl ⟨by unfold RA; omega, by unfold RBx; omega, by decide, hfc 164 (by decide +kernel)⟩))⟩
        · have f39 := mt (ti_eq (a := w2.toInt) (b := (-9)) rfl (by decide +kernel)).mpr c39
          refine lv_aload_n hx hb dX11_role_39 rfl (lv_at hl 0 rfl) ?_
          refine xgT_X_world hx hb hts (fun _ h => List.mem_cons_of_mem _ (List.mem_append_left _ (List.mem_append_left _ (List.mem_append_right _ h)))) hown hK hP (hts (.fieldLink RX11 10 "TalePlay" "world" "LTalePlay$World;") (List.mem_cons_of_mem _ (List.mem_append_left _ (List.mem_append_left _ (List.mem_append_left _ (List.mem_append_left _ (List.mem_of_getElem? (i := 8) rfl))))))) dX11_role_40 ?_
          refine lv_iload_n hx hb dX11_role_43 rfl (lv_at hl 3 rfl) ?_
          refine ro_calli (va_runV (As := [.int w2]) (rest := []) ⟨hx, hb, hml, hown, hts⟩ (x_X10_sortOf_e l D H.size .null a t i q c d w2 hI ) (cwV 1 hts gm_X11_role_e_X10_sortOf_e_125 rfl rfl rfl (by decide +kernel) ⟨Nat.le_of_ble_eq_true rfl, Nat.le_of_ble_eq_true rfl⟩) (yA_V hN (xZ_k hZ hS hA) (xkT_W hK) (xuT_W (sk := sk) hP) (ci := 10) (q0 := 0) rfl rfl) rfl rfl hl.1 rfl (lv_room (Nat.le_of_ble_eq_true rfl)) dX11_role_44 ⟨Nat.le_of_ble_eq_true rfl, Nat.le_of_ble_eq_true rfl⟩) hS hA hP (fun r54 u54 H locs hw54 hP hS => ?_)
          have hw54 : (((r54.toInt = -9 ∧ ¬ (0 ≤ w2.toInt ∧ w2.toInt < (i 111).toInt)) ∨ (0 ≤ r54.toInt ∧ r54.toInt ≤ 5 ∧ 0 ≤ w2.toInt ∧ w2.toInt < (i 111).toInt)) ∧ (SO (c 106) (c 108) (i 111).toInt w2.toInt r54.toInt)) := hw54
          obtain ⟨hw54, hr54_0⟩ := hw54
          have hr54_0 : SO (c 106) (c 108) (i 111).toInt w2.toInt r54.toInt := hr54_0
          have how : r54.toInt = (c 106 (c 108 w2.toInt.toNat).toNatClampNeg).toInt := by rcases hr54_0 with h9 | h9; (· exact h9.2.2); (· exfalso; omega)
          refine lv_if_ne (tgt := 56) hx hb dX11_role_47 (by decide +kernel) (fun c55 => ?_) (fun c55 => ?_)
          · have f55 := mt (ti_eq (a := r54.toInt) (b := 0) rfl (by decide +kernel)).mpr c55
            refine lv_iload_n hx hb dX11_role_56 rfl (lv_at hl 2 rfl) ?_
            refine lv_aload_n hx hb dX11_role_57 rfl (lv_at hl 0 rfl) ?_
            refine xgT_X_casts hx hb hts (fun _ h => List.mem_cons_of_mem _ (List.mem_append_left _ (List.mem_append_left _ (List.mem_append_right _ h)))) hown hK hP (hts (.fieldLink RX11 60 "TalePlay" "casts" "LTalePlay$Casts;") (List.mem_cons_of_mem _ (List.mem_append_left _ (List.mem_append_left _ (List.mem_append_left _ (List.mem_append_left _ (List.mem_of_getElem? (i := 0) rfl))))))) dX11_role_58 ?_
            refine xgT_C_lengths hx hb hts (fun _ h => List.mem_cons_of_mem _ (List.mem_append_left _ (List.mem_append_right _ h))) hown hK hP (hts (.fieldLink RX11 340 "TalePlay$Casts" "lengths" "[I") (List.mem_cons_of_mem _ (List.mem_append_left _ (List.mem_append_left _ (List.mem_append_left _ (List.mem_append_left _ (List.mem_of_getElem? (i := 6) rfl))))))) dX11_role_61 ?_
            refine lv_iload_n hx hb dX11_role_64 rfl (lv_at hl 1 rfl) ?_
            refine xlT_163 hx hb hK hP (vp_in_iff.mpr (by have h9 : w.toInt = w.toInt := rfl; omega)) dX11_role_65 (fun x56 ex56 => ?_)
            have rx56 : 0 ≤ x56.toInt ∧ x56.toInt ≤ 12 := by rw [ex56]; exact hI.2 163 _
            have gx56 : (c 163 (w : Int32).toNatClampNeg).toInt = x56.toInt := (congrArg Int32.toInt ex56).symm
            have hPc := hP.sub (ws' := []) [] rfl
            have hKc := hK.sub (tys' := []) [] rfl
            refine ro_calli (va_runS (As := [.int n1, .int x56]) (rest := []) ⟨hx, hb, hml, hown, hts⟩ (c_X11_isBelow l D H.size n1 x56 n1.toInt x56.toInt rfl rfl) (va_cwS 2 hts gm_X11_role_e_X11_isBelow_91 rfl rfl rfl (by decide +kernel) ⟨Nat.le_of_ble_eq_true rfl, Nat.le_of_ble_eq_true rfl⟩) (pA_S hKc hPc) rfl rfl hl.1 rfl (lv_room (Nat.le_of_ble_eq_true rfl)) dX11_role_66 ⟨Nat.le_of_ble_eq_true rfl, Nat.le_of_ble_eq_true rfl⟩) hS hA hP (fun r58 u58 H locs hw58 hP hS => ?_)
            have hw58 : r58 = if (0 ≤ n1.toInt ∧ n1.toInt < x56.toInt) then 1 else 0 := hw58
            refine lv_if_ne (tgt := 78) hx hb dX11_role_69 (by decide +kernel) (fun c59 => ?_) (fun c59 => ?_)
            · have f59 := fl_t hw58 c59
              refine lv_iload_n hx hb dX11_role_78 rfl (lv_at hl 3 rfl) ?_
              refine lv_bipush (v := (-9)) hx hb dX11_role_79 (by decide +kernel) ?_
              refine lv_icmp_eq (tgt := 111) hx hb dX11_role_81 (by decide +kernel) (fun c60 => ?_) (fun c60 => ?_)
              · have f60 := (ti_eq (a := w2.toInt) (b := (-9)) rfl (by decide +kernel)).mp c60
                refine lv_aload_n hx hb dX11_role_111 rfl (lv_at hl 0 rfl) ?_
                refine xgT_X_casts hx hb hts (fun _ h => List.mem_cons_of_mem _ (List.mem_append_left _ (List.mem_append_left _ (List.mem_append_right _ h)))) hown hK hP (hts (.fieldLink RX11 60 "TalePlay" "casts" "LTalePlay$Casts;") (List.mem_cons_of_mem _ (List.mem_append_left _ (List.mem_append_left _ (List.mem_append_left _ (List.mem_append_left _ (List.mem_of_getElem? (i := 0) rfl))))))) dX11_role_112 ?_
                refine xgT_C_roles hx hb hts (fun _ h => List.mem_cons_of_mem _ (List.mem_append_left _ (List.mem_append_right _ h))) hown hK hP (hts (.fieldLink RX11 347 "TalePlay$Casts" "roles" "[I") (List.mem_cons_of_mem _ (List.mem_append_left _ (List.mem_append_left _ (List.mem_append_left _ (List.mem_append_left _ (List.mem_of_getElem? (i := 7) rfl))))))) dX11_role_115 ?_
                refine lv_iload_n hx hb dX11_role_118 rfl (lv_at hl 1 rfl) ?_
                refine lv_bipush (v := 12) hx hb dX11_role_119 (by decide +kernel) ?_
                refine lv_imul hx hb dX11_role_121 ?_
                refine lv_topi (fun x61 ex61 => ?_)
                have tx61 := ti_mul (a := w.toInt) (b := 12) ex61 rfl (by decide +kernel) (by omega) (by omega)
                refine lv_iload_n hx hb dX11_role_122 rfl (lv_at hl 2 rfl) ?_
                refine lv_iadd hx hb dX11_role_123 ?_
                refine lv_topi (fun x62 ex62 => ?_)
                have tx62 := ti_add (a := (w.toInt * 12)) (b := n1.toInt) ex62 tx61 rfl (by omega) (by omega)
                refine lv_iload_n hx hb dX11_role_124 rfl (lv_at hl 3 rfl) ?_
                refine xsT_164 hx hb hK hP hD hS (vp_in_iff.mpr (by have h9 : x62.toInt = ((w.toInt * 12) + n1.toInt) := tx62; omega)) dX11_role_125 (fun H locs hP hD hS => ?_)
                have hI := xInv_c hI (k := 164) (j := (x62 : Int32).toNatClampNeg) (x := w2) (show (w2 : Int32).toInt = -9 ∨ (0 ≤ (w2 : Int32).toInt ∧ (w2 : Int32).toInt ≤ 29) from by omega)
                have hfc : ∀ k, k ∉ ([164] : List Nat) → (updA c 164 (x62 : Int32).toNatClampNeg w2) k = c k := fr_cz hfc (by decide +kernel) (by decide +kernel)
                refine lv_iconst (v := 1) hx hb dX11_role_126 (by decide +kernel) ?_
                exact rw_iret (i, q, (updA c 164 (x62 : Int32).toNatClampNeg w2), d) hx hb hr hlocks hS (hK.sub (tys' := []) [] rfl) hP hD dX11_role_127 ⟨trivial, hI, fr_w hfi (by decide +kernel), fr_w hfc (by decide +kernel), (show RoW (c 164) ((updA c 164 (x62 : Int32).toNatClampNeg w2) 164) w n1 w2 (i 165) (i 111) (1 : Int32) (RBx (c 108) (c 106) (c 162) (c 163) w n1 w2) from Or.inr (Or.inr ⟨by unfold RA; omega, by unfold RBx; omega, by decide, by show upd (c 164) (x62 : Int32).toNatClampNeg w2 = _; rw [cl_t (show (x62 : Int32).toInt = w.toInt * 12 + n1.toInt from by omega)]⟩))⟩
              · have f60 := mt (ti_eq (a := w2.toInt) (b := (-9)) rfl (by decide +kernel)).mpr c60
                refine lv_aload_n hx hb dX11_role_84 rfl (lv_at hl 0 rfl) ?_
                refine xgT_X_world hx hb hts (fun _ h => List.mem_cons_of_mem _ (List.mem_append_left _ (List.mem_append_left _ (List.mem_append_right _ h)))) hown hK hP (hts (.fieldLink RX11 10 "TalePlay" "world" "LTalePlay$World;") (List.mem_cons_of_mem _ (List.mem_append_left _ (List.mem_append_left _ (List.mem_append_left _ (List.mem_append_left _ (List.mem_of_getElem? (i := 8) rfl))))))) dX11_role_85 ?_
                refine lv_iload_n hx hb dX11_role_88 rfl (lv_at hl 3 rfl) ?_
                refine lv_aload_n hx hb dX11_role_89 rfl (lv_at hl 0 rfl) ?_
                refine xgT_X_casts hx hb hts (fun _ h => List.mem_cons_of_mem _ (List.mem_append_left _ (List.mem_append_left _ (List.mem_append_right _ h)))) hown hK hP (hts (.fieldLink RX11 60 "TalePlay" "casts" "LTalePlay$Casts;") (List.mem_cons_of_mem _ (List.mem_append_left _ (List.mem_append_left _ (List.mem_append_left _ (List.mem_append_left _ (List.mem_of_getElem? (i := 0) rfl))))))) dX11_role_90 ?_
                refine xgT_C_sorts hx hb hts (fun _ h => List.mem_cons_of_mem _ (List.mem_append_left _ (List.mem_append_right _ h))) hown hK hP (hts (.fieldLink RX11 343 "TalePlay$Casts" "sorts" "[I") (List.mem_cons_of_mem _ (List.mem_append_left _ (List.mem_append_left _ (List.mem_append_left _ (List.mem_append_left _ (List.mem_of_getElem? (i := 9) rfl))))))) dX11_role_93 ?_
                refine lv_iload_n hx hb dX11_role_96 rfl (lv_at hl 1 rfl) ?_
                refine xlT_162 hx hb hK hP (vp_in_iff.mpr (by have h9 : w.toInt = w.toInt := rfl; omega)) dX11_role_97 (fun x63 ex63 => ?_)
                have rx63 : 0 ≤ x63.toInt ∧ x63.toInt ≤ 5 := by rw [ex63]; exact hI.2 162 _
                have gx63 : (c 162 (w : Int32).toNatClampNeg).toInt = x63.toInt := (congrArg Int32.toInt ex63).symm
                refine ro_calli (va_runV (As := [.int w2, .int x63]) (rest := []) ⟨hx, hb, hml, hown, hts⟩ (x_X10_isOfSort_e l D H.size .null a t i q c d w2 x63 hI (show 0 ≤ w2.toInt ∧ w2.toInt < ((i 111) : Int32).toInt from by omega)) (cwV 2 hts gm_X11_role_e_X10_isOfSort_e_344 rfl rfl rfl (by decide +kernel) ⟨Nat.le_of_ble_eq_true rfl, Nat.le_of_ble_eq_true rfl⟩) (yA_V hN (xZ_k hZ hS hA) (xkT_W hK) (xuT_W (sk := sk) hP) (ci := 10) (q0 := 0) rfl rfl) rfl rfl hl.1 rfl (lv_room (Nat.le_of_ble_eq_true rfl)) dX11_role_98 ⟨Nat.le_of_ble_eq_true rfl, Nat.le_of_ble_eq_true rfl⟩) hS hA hP (fun r64 u64 H locs hw64 hP hS => ?_)
                have hw64 : ((r64.toInt = 1 ∧ ((c 106 (c 108 w2.toInt.toNat).toNatClampNeg).toInt = x63.toInt ∨ (x63.toInt = 1 ∧ 1 < (c 106 (c 108 w2.toInt.toNat).toNatClampNeg).toInt))) ∨ (r64.toInt = 0 ∧ ¬ ((c 106 (c 108 w2.toInt.toNat).toNatClampNeg).toInt = x63.toInt ∨ (x63.toInt = 1 ∧ 1 < (c 106 (c 108 w2.toInt.toNat).toNatClampNeg).toInt)))) := hw64
                refine lv_if_ne (tgt := 111) hx hb dX11_role_101 (by decide +kernel) (fun c65 => ?_) (fun c65 => ?_)
                · have f65 := mt (ti_eq (a := r64.toInt) (b := 0) rfl (by decide +kernel)).mpr c65
                  refine lv_aload_n hx hb dX11_role_111 rfl (lv_at hl 0 rfl) ?_
                  refine xgT_X_casts hx hb hts (fun _ h => List.mem_cons_of_mem _ (List.mem_append_left _ (List.mem_append_left _ (List.mem_append_right _ h)))) hown hK hP (hts (.fieldLink RX11 60 "TalePlay" "casts" "LTalePlay$Casts;") (List.mem_cons_of_mem _ (List.mem_append_left _ (List.mem_append_left _ (List.mem_append_left _ (List.mem_append_left _ (List.mem_of_getElem? (i := 0) rfl))))))) dX11_role_112 ?_
                  refine xgT_C_roles hx hb hts (fun _ h => List.mem_cons_of_mem _ (List.mem_append_left _ (List.mem_append_right _ h))) hown hK hP (hts (.fieldLink RX11 347 "TalePlay$Casts" "roles" "[I") (List.mem_cons_of_mem _ (List.mem_append_left _ (List.mem_append_left _ (List.mem_append_left _ (List.mem_append_left _ (List.mem_of_getElem? (i := 7) rfl))))))) dX11_role_115 ?_
                  refine lv_iload_n hx hb dX11_role_118 rfl (lv_at hl 1 rfl) ?_
                  refine lv_bipush (v := 12) hx hb dX11_role_119 (by decide +kernel) ?_
                  refine lv_imul hx hb dX11_role_121 ?_
                  refine lv_topi (fun x66 ex66 => ?_)
                  have tx66 := ti_mul (a := w.toInt) (b := 12) ex66 rfl (by decide +kernel) (by omega) (by omega)
                  refine lv_iload_n hx hb dX11_role_122 rfl (lv_at hl 2 rfl) ?_
                  refine lv_iadd hx hb dX11_role_123 ?_
                  refine lv_topi (fun x67 ex67 => ?_)
                  have tx67 := ti_add (a := (w.toInt * 12)) (b := n1.toInt) ex67 tx66 rfl (by omega) (by omega)
                  refine lv_iload_n hx hb dX11_role_124 rfl (lv_at hl 3 rfl) ?_
                  refine xsT_164 hx hb hK hP hD hS (vp_in_iff.mpr (by have h9 : x67.toInt = ((w.toInt * 12) + n1.toInt) := tx67; omega)) dX11_role_125 (fun H locs hP hD hS => ?_)
                  have hI := xInv_c hI (k := 164) (j := (x67 : Int32).toNatClampNeg) (x := w2) (show (w2 : Int32).toInt = -9 ∨ (0 ≤ (w2 : Int32).toInt ∧ (w2 : Int32).toInt ≤ 29) from by omega)
                  have hfc : ∀ k, k ∉ ([164] : List Nat) → (updA c 164 (x67 : Int32).toNatClampNeg w2) k = c k := fr_cz hfc (by decide +kernel) (by decide +kernel)
                  refine lv_iconst (v := 1) hx hb dX11_role_126 (by decide +kernel) ?_
                  exact rw_iret (i, q, (updA c 164 (x67 : Int32).toNatClampNeg w2), d) hx hb hr hlocks hS (hK.sub (tys' := []) [] rfl) hP hD dX11_role_127 ⟨trivial, hI, fr_w hfi (by decide +kernel), fr_w hfc (by decide +kernel), (show RoW (c 164) ((updA c 164 (x67 : Int32).toNatClampNeg w2) 164) w n1 w2 (i 165) (i 111) (1 : Int32) (RBx (c 108) (c 106) (c 162) (c 163) w n1 w2) from Or.inr (Or.inr ⟨by unfold RA; omega, by unfold RBx; omega, by decide, by show upd (c 164) (x67 : Int32).toNatClampNeg w2 = _; rw [cl_t (show (x67 : Int32).toInt = w.toInt * 12 + n1.toInt from by omega)]⟩))⟩
                · have f65 := (ti_eq (a := r64.toInt) (b := 0) rfl (by decide +kernel)).mp c65
                  refine lv_aload_n hx hb dX11_role_104 rfl (lv_at hl 0 rfl) ?_
                  refine lv_bipush (v := 6) hx hb dX11_role_105 (by decide +kernel) ?_
                  refine al_calli (va_runV (As := [.int 6]) (rest := []) ⟨hx, hb, hml, hown, hts⟩ (x_X11_answerFinding l D H.size sk a t i q c d 6 hI (show 1 ≤ 6 ∧ 6 ≤ 6 from by decide +kernel)) (cwV 1 hts gm_X11_role_e_X11_answerFinding_128 rfl rfl rfl (by decide +kernel) ⟨Nat.le_of_ble_eq_true rfl, Nat.le_of_ble_eq_true rfl⟩) (yB_V hN (xZ_k hZ hS hA) (xZ_n hZ hD) hK hP hD (ci := 11) (q0 := 0) rfl rfl) rfl rfl hl.1 rfl (lv_room (Nat.le_of_ble_eq_true rfl)) dX11_role_107 ⟨Nat.le_of_ble_eq_true rfl, Nat.le_of_ble_eq_true rfl⟩) hS hA hP hD (fun r68 u68 H locs hw68 hP hD hS => ?_)
                  obtain ⟨i68, q68, c68, d68⟩ := u68
                  have hw68 : r68 = (-3) ∧ xInv i68 c68 ∧ (∀ k, k ∉ ([102] : List Nat) → i68 k = i k) ∧ (∀ k, k ∉ ([101] : List Nat) → c68 k = c k) := hw68
                  obtain ⟨hw68, hI, hei68, hec68⟩ := hw68
                  have hfi : ∀ k, k ∉ ([102] : List Nat) → i68 k = i k := fr_z hfi hei68 (by decide +kernel) (by decide +kernel)
                  have hfc : ∀ k, k ∉ ([101] : List Nat) → c68 k = c k := fr_z hfc hec68 (by decide +kernel) (by decide +kernel)
                  have hw68 : r68 = (-3) := hw68
                  subst hw68
                  exact rw_iret (i68, q68, c68, d68) hx hb hr hlocks hS (hK.sub (tys' := []) [] rfl) hP hD dX11_role_110 ⟨trivial, hI, fr_w hfi (by decide +kernel), fr_w hfc (by decide +kernel), (show RoW (c 164) (c68 164) w n1 w2 (i 165) (i 111) ((-3) : Int32) (RBx (c 108) (c 106) (c 162) (c 163) w n1 w2) from Or.inr (Or.inl ⟨by unfold RA; omega, by unfold RBx; omega, by decide, hfc 164 (by decide +kernel)⟩))⟩
            · have f59 := fl_f hw58 c59
              refine lv_aload_n hx hb dX11_role_72 rfl (lv_at hl 0 rfl) ?_
              refine lv_iconst (v := 2) hx hb dX11_role_73 (by decide +kernel) ?_
              refine al_calli (va_runV (As := [.int 2]) (rest := []) ⟨hx, hb, hml, hown, hts⟩ (x_X11_answerFinding l D H.size sk a t i q c d 2 hI (show 1 ≤ 2 ∧ 2 ≤ 6 from by decide +kernel)) (cwV 1 hts gm_X11_role_e_X11_answerFinding_128 rfl rfl rfl (by decide +kernel) ⟨Nat.le_of_ble_eq_true rfl, Nat.le_of_ble_eq_true rfl⟩) (yB_V hN (xZ_k hZ hS hA) (xZ_n hZ hD) hK hP hD (ci := 11) (q0 := 0) rfl rfl) rfl rfl hl.1 rfl (lv_room (Nat.le_of_ble_eq_true rfl)) dX11_role_74 ⟨Nat.le_of_ble_eq_true rfl, Nat.le_of_ble_eq_true rfl⟩) hS hA hP hD (fun r69 u69 H locs hw69 hP hD hS => ?_)
              obtain ⟨i69, q69, c69, d69⟩ := u69
              have hw69 : r69 = (-3) ∧ xInv i69 c69 ∧ (∀ k, k ∉ ([102] : List Nat) → i69 k = i k) ∧ (∀ k, k ∉ ([101] : List Nat) → c69 k = c k) := hw69
              obtain ⟨hw69, hI, hei69, hec69⟩ := hw69
              have hfi : ∀ k, k ∉ ([102] : List Nat) → i69 k = i k := fr_z hfi hei69 (by decide +kernel) (by decide +kernel)
              have hfc : ∀ k, k ∉ ([101] : List Nat) → c69 k = c k := fr_z hfc hec69 (by decide +kernel) (by decide +kernel)
              have hw69 : r69 = (-3) := hw69
              subst hw69
              exact rw_iret (i69, q69, c69, d69) hx hb hr hlocks hS (hK.sub (tys' := []) [] rfl) hP hD dX11_role_77 ⟨trivial, hI, fr_w hfi (by decide +kernel), fr_w hfc (by decide +kernel), (show RoW (c 164) (c69 164) w n1 w2 (i 165) (i 111) ((-3) : Int32) (RBx (c 108) (c 106) (c 162) (c 163) w n1 w2) from Or.inr (Or.inl ⟨by unfold RA; omega, by unfold RBx; omega, by decide, hfc 164 (by decide +kernel)⟩))⟩
          · have f55 := (ti_eq (a := r54.toInt) (b := 0) rfl (by decide +kernel)).mp c55
            refine lv_aload_n hx hb dX11_role_50 rfl (lv_at hl 0 rfl) ?_
            refine lv_iconst (v := 3) hx hb dX11_role_51 (by decide +kernel) ?_
            refine al_calli (va_runV (As := [.int 3]) (rest := []) ⟨hx, hb, hml, hown, hts⟩ (x_X11_answerFinding l D H.size sk a t i q c d 3 hI (show 1 ≤ 3 ∧ 3 ≤ 6 from by decide +kernel)) (cwV 1 hts gm_X11_role_e_X11_answerFinding_128 rfl rfl rfl (by decide +kernel) ⟨Nat.le_of_ble_eq_true rfl, Nat.le_of_ble_eq_true rfl⟩) (yB_V hN (xZ_k hZ hS hA) (xZ_n hZ hD) hK hP hD (ci := 11) (q0 := 0) rfl rfl) rfl rfl hl.1 rfl (lv_room (Nat.le_of_ble_eq_true rfl)) dX11_role_52 ⟨Nat.le_of_ble_eq_true rfl, Nat.le_of_ble_eq_true rfl⟩) hS hA hP hD (fun r70 u70 H locs hw70 hP hD hS => ?_)
            obtain ⟨i70, q70, c70, d70⟩ := u70
            have hw70 : r70 = (-3) ∧ xInv i70 c70 ∧ (∀ k, k ∉ ([102] : List Nat) → i70 k = i k) ∧ (∀ k, k ∉ ([101] : List Nat) → c70 k = c k) := hw70
            obtain ⟨hw70, hI, hei70, hec70⟩ := hw70
            have hfi : ∀ k, k ∉ ([102] : List Nat) → i70 k = i k := fr_z hfi hei70 (by decide +kernel) (by decide +kernel)
            have hfc : ∀ k, k ∉ ([101] : List Nat) → c70 k = c k := fr_z hfc hec70 (by decide +kernel) (by decide +kernel)
            have hw70 : r70 = (-3) := hw70
            subst hw70
            exact rw_iret (i70, q70, c70, d70) hx hb hr hlocks hS (hK.sub (tys' := []) [] rfl) hP hD dX11_role_55 ⟨trivial, hI, fr_w hfi (by decide +kernel), fr_w hfc (by decide +kernel), (show RoW (c 164) (c70 164) w n1 w2 (i 165) (i 111) ((-3) : Int32) (RBx (c 108) (c 106) (c 162) (c 163) w n1 w2) from Or.inr (Or.inl ⟨by unfold RA; omega, by unfold RBx; omega, by decide, hfc 164 (by decide +kernel)⟩))⟩
      · have f38 := fl_f hw37 c38
        refine lv_iconst (v := (-1)) hx hb dX11_role_31 (by decide +kernel) ?_
        exact rw_iret (i, q, c, d) hx hb hr hlocks hS (hK.sub (tys' := []) [] rfl) hP hD dX11_role_32 ⟨trivial, hI, fr_w hfi (by decide +kernel), fr_w hfc (by decide +kernel), (show RoW (c 164) (c 164) w n1 w2 (i 165) (i 111) ((-1) : Int32) (RBx (c 108) (c 106) (c 162) (c 163) w n1 w2) from Or.inl ⟨by unfold RA; omega, by decide, rfl⟩)⟩

set_option maxHeartbeats 4000000 in
set_option maxRecDepth 100000 in
theorem s_X12_role_e (l : Launch) (D : va_G) (sz : Nat) (o : Nat) (a : Nat → Nat) (t : Nat → ClassId) (i : Nat → Int32) (q : Int64) (c : Nat → Nat → Int32) (d : Nat → Nat → Int64) (w : Int32) (n1 : Int32) (w2 : Int32) (hI : mInv i c) : Met l yX12_role wm_X12_role ({ frames := 2, cells := 0, slots := 0, locals := 46 }) (va_Pc [.ref o, .int w, .int n1, .int w2] (pB D sz (mW o a t i q c d) (mT t))) (va_Qi (fun (r : Int32) (u : MS) => True ∧ mInv u.1 u.2.2.1 ∧ (∀ k, k ∉ ([0] : List Nat) → u.1 k = i k) ∧ (∀ k, k ∉ ([1, 67] : List Nat) → u.2.2.1 k = c k) ∧ (RoW (c 67) (u.2.2.1 67) w n1 w2 (i 64) (i 5) r (RBm (c 3) (c 6) (c 65) (c 66) w n1 w2))) (oC D (va_A (mW o a t i q c d) sz) (fun u : MS => mW o a t u.1 u.2.1 u.2.2.1 u.2.2.2) (fun _ => [])) (va_A (mW o a t i q c d) sz)) 0 0 (va_A (mW o a t i q c d) sz) := by
  refine Met.ofW (cc := cX12_role) (maxL := 4) (ret := (some .int)) (by decide +kernel) rfl ?_
  intro p e s m args below meth cd s₁ B hml hv
  obtain ⟨rfl, hsz, hP, hK, hD0⟩ := hv
  have hx := B.exec
  have hb := B.bytes
  have hr := B.returns
  have hts := atoms_spec (ws := wm_X12_role) B.pre
  have hown : s.vm.findClass RX12 = some m.cls := findClass_of_methodNamed B.named
  have hlocks := B.notSynchronized
  subst hsz
  have hD := hD0.self (sz := s.heap.size)
  generalize hAe : va_A (mW o a t i q c d) s.heap.size = A at hD ⊢
  have hA : ∀ q : Nat, s.heap.size ≤ q → A q := fun q h => by rw [← hAe]; exact Or.inr h
  have hS : va_S A s.heap s.heap [] := va_S.rf
  have hfi : ∀ k, k ∉ ([] : List Nat) → i k = i k := fun _ _ => rfl
  have hfc : ∀ k, k ∉ ([] : List Nat) → c k = c k := fun _ _ => rfl
  have hl := lv_entry ([.ref o, .int w, .int n1, .int w2]) (n := 4) (Nat.le_of_ble_eq_true rfl)
  rw [lg_entry_eq]
  generalize (lg_sl ([.ref o, .int w, .int n1, .int w2]) ++ List.replicate (4 - (lg_sl ([.ref o, .int w, .int n1, .int w2])).length) Slot.unset).toArray = ls at hl ⊢
  have hl : lv_has ls 4 [(0, .ref o), (1, .int w), (2, .int n1), (3, .int w2)] := hl
  have rb5_i : 0 ≤ (i 5).toInt ∧ (i 5).toInt ≤ 30 := hI.1 5
  have rb64_i : 0 ≤ (i 64).toInt ∧ (i 64).toInt ≤ 10 := hI.1 64
  refine lv_iload_n hx hb dX12_role_0 rfl (lv_at hl 1 rfl) ?_
  refine lv_i2l (v := w.toInt64) hx hb dX12_role_1 rfl ?_
  refine lv_lconst (v := 0) hx hb dX12_role_2 (by decide +kernel) ?_
  refine lv_aload_n hx hb dX12_role_3 rfl (lv_at hl 0 rfl) ?_
  refine mget_64 (v := (i 64)) rfl hx hb hts (fun _ h => List.mem_cons_of_mem _ (List.mem_append_right _ h)) hown hK hP (hts (.fieldLink RX12 450 "TalePlayModel" "casts" "I") (List.mem_cons_of_mem _ (List.mem_append_left _ (List.mem_append_left _ (List.mem_of_getElem? (i := 0) rfl))))) dX12_role_4 ?_
  refine lv_iconst (v := 1) hx hb dX12_role_7 (by decide +kernel) ?_
  refine lv_isub hx hb dX12_role_8 ?_
  refine lv_topi (fun x1 ex1 => ?_)
  have tx1 := ti_sub (a := (i 64).toInt) (b := 1) ex1 rfl (by decide +kernel) (by omega) (by omega)
  refine lv_i2l (v := x1.toInt64) hx hb dX12_role_9 rfl ?_
  have hPc := hP.sub (ws' := []) [] rfl
  have hKc := hK.sub (tys' := []) [] rfl
  refine ro_calli (va_runS (As := [.long w.toInt64, .long 0, .long x1.toInt64]) (rest := []) ⟨hx, hb, hml, hown, hts⟩ (c_X12_in l D s.heap.size w.toInt64 0 x1.toInt64 w.toInt 0 ((i 64).toInt - 1) ((Int32.toInt_toInt64 w).trans rfl) (by decide +kernel) ((Int32.toInt_toInt64 x1).trans tx1)) (va_cwS 3 hts gm_X12_role_X12_in rfl rfl rfl (by decide +kernel) ⟨Nat.le_of_ble_eq_true rfl, Nat.le_of_ble_eq_true rfl⟩) (pA_S hKc hPc) rfl rfl hl.1 rfl (lv_room (Nat.le_of_ble_eq_true rfl)) dX12_role_10 ⟨Nat.le_of_ble_eq_true rfl, Nat.le_of_ble_eq_true rfl⟩) hS hA hP (fun r2 u2 H locs hw2 hP hS => ?_)
  have hw2 : r2 = if (0 ≤ w.toInt ∧ w.toInt ≤ ((i 64).toInt - 1)) then 1 else 0 := hw2
  refine lv_if_eq (tgt := 30) hx hb dX12_role_13 (by decide +kernel) (fun c3 => ?_) (fun c3 => ?_)
  · have f3 := fl_f hw2 c3
    refine lv_iconst (v := (-1)) hx hb dX12_role_30 (by decide +kernel) ?_
    exact rw_iret (i, q, c, d) hx hb hr hlocks hS (hK.sub (tys' := []) [] rfl) hP hD dX12_role_31 ⟨trivial, hI, fr_w hfi (by decide +kernel), fr_w hfc (by decide +kernel), (show RoW (c 67) (c 67) w n1 w2 (i 64) (i 5) ((-1) : Int32) (RBm (c 3) (c 6) (c 65) (c 66) w n1 w2) from Or.inl ⟨by unfold RA; omega, by decide, rfl⟩)⟩
  · have f3 := fl_t hw2 c3
    refine lv_iload_n hx hb dX12_role_16 rfl (lv_at hl 3 rfl) ?_
    refine lv_bipush (v := (-9)) hx hb dX12_role_17 (by decide +kernel) ?_
    refine lv_icmp_eq (tgt := 32) hx hb dX12_role_19 (by decide +kernel) (fun c4 => ?_) (fun c4 => ?_)
    · have f4 := (ti_eq (a := w2.toInt) (b := (-9)) rfl (by decide +kernel)).mp c4
      refine lv_iload_n hx hb dX12_role_32 rfl (lv_at hl 3 rfl) ?_
      refine lv_bipush (v := (-9)) hx hb dX12_role_33 (by decide +kernel) ?_
      refine lv_icmp_eq (tgt := 53) hx hb dX12_role_35 (by decide +kernel) (fun c5 => ?_) (fun c5 => ?_)
      · have f5 := (ti_eq (a := w2.toInt) (b := (-9)) rfl (by decide +kernel)).mp c5
        refine lv_iload_n hx hb dX12_role_53 rfl (lv_at hl 2 rfl) ?_
        refine lv_i2l (v := n1.toInt64) hx hb dX12_role_54 rfl ?_
        refine lv_lconst (v := 0) hx hb dX12_role_55 (by decide +kernel) ?_
        refine lv_aload_n hx hb dX12_role_56 rfl (lv_at hl 0 rfl) ?_
        refine mget_66 hx hb hts (fun _ h => List.mem_cons_of_mem _ (List.mem_append_right _ h)) hown hK hP (hts (.fieldLink RX12 142 "TalePlayModel" "castMany" "[I") (List.mem_cons_of_mem _ (List.mem_append_left _ (List.mem_append_left _ (List.mem_of_getElem? (i := 5) rfl))))) dX12_role_57 ?_
        refine lv_iload_n hx hb dX12_role_60 rfl (lv_at hl 1 rfl) ?_
        refine mld_66 hx hb hK hP (vp_in_iff.mpr (by have h9 : w.toInt = w.toInt := rfl; omega)) dX12_role_61 (fun x6 ex6 => ?_)
        have rx6 : 0 ≤ x6.toInt ∧ x6.toInt ≤ 12 := by rw [ex6]; exact hI.2 66 _
        have gx6 : (c 66 (w : Int32).toNatClampNeg).toInt = x6.toInt := by rw [ex6]
        refine lv_iconst (v := 1) hx hb dX12_role_62 (by decide +kernel) ?_
        refine lv_isub hx hb dX12_role_63 ?_
        refine lv_topi (fun x7 ex7 => ?_)
        have tx7 := ti_sub (a := x6.toInt) (b := 1) ex7 rfl (by decide +kernel) (by omega) (by omega)
        refine lv_i2l (v := x7.toInt64) hx hb dX12_role_64 rfl ?_
        have hPc := hP.sub (ws' := []) [] rfl
        have hKc := hK.sub (tys' := []) [] rfl
        refine ro_calli (va_runS (As := [.long n1.toInt64, .long 0, .long x7.toInt64]) (rest := []) ⟨hx, hb, hml, hown, hts⟩ (c_X12_in l D H.size n1.toInt64 0 x7.toInt64 n1.toInt 0 (x6.toInt - 1) ((Int32.toInt_toInt64 n1).trans rfl) (by decide +kernel) ((Int32.toInt_toInt64 x7).trans tx7)) (va_cwS 3 hts gm_X12_role_X12_in rfl rfl rfl (by decide +kernel) ⟨Nat.le_of_ble_eq_true rfl, Nat.le_of_ble_eq_true rfl⟩) (pA_S hKc hPc) rfl rfl hl.1 rfl (lv_room (Nat.le_of_ble_eq_true rfl)) dX12_role_65 ⟨Nat.le_of_ble_eq_true rfl, Nat.le_of_ble_eq_true rfl⟩) hS hA hP (fun r8 u8 H locs hw8 hP hS => ?_)
        have hw8 : r8 = if (0 ≤ n1.toInt ∧ n1.toInt ≤ (x6.toInt - 1)) then 1 else 0 := hw8
        refine lv_if_ne (tgt := 77) hx hb dX12_role_68 (by decide +kernel) (fun c9 => ?_) (fun c9 => ?_)
        · have f9 := fl_t hw8 c9
          refine lv_iload_n hx hb dX12_role_77 rfl (lv_at hl 3 rfl) ?_
          refine lv_bipush (v := (-9)) hx hb dX12_role_78 (by decide +kernel) ?_
          refine lv_icmp_eq (tgt := 104) hx hb dX12_role_80 (by decide +kernel) (fun c10 => ?_) (fun c10 => ?_)
          · have f10 := (ti_eq (a := w2.toInt) (b := (-9)) rfl (by decide +kernel)).mp c10
            refine lv_aload_n hx hb dX12_role_104 rfl (lv_at hl 0 rfl) ?_
            refine mget_67 hx hb hts (fun _ h => List.mem_cons_of_mem _ (List.mem_append_right _ h)) hown hK hP (hts (.fieldLink RX12 145 "TalePlayModel" "roles" "[I") (List.mem_cons_of_mem _ (List.mem_append_left _ (List.mem_append_left _ (List.mem_of_getElem? (i := 6) rfl))))) dX12_role_105 ?_
            refine lv_bipush (v := 12) hx hb dX12_role_108 (by decide +kernel) ?_
            refine lv_iload_n hx hb dX12_role_110 rfl (lv_at hl 1 rfl) ?_
            refine lv_imul hx hb dX12_role_111 ?_
            refine lv_topi (fun x11 ex11 => ?_)
            have tx11 := ti_mul (a := 12) (b := w.toInt) ex11 (by decide +kernel) rfl (by omega) (by omega)
            refine lv_iload_n hx hb dX12_role_112 rfl (lv_at hl 2 rfl) ?_
            refine lv_iadd hx hb dX12_role_113 ?_
            refine lv_topi (fun x12 ex12 => ?_)
            have tx12 := ti_add (a := (12 * w.toInt)) (b := n1.toInt) ex12 tx11 rfl (by omega) (by omega)
            refine lv_iload_n hx hb dX12_role_114 rfl (lv_at hl 3 rfl) ?_
            refine mst_67 hx hb hK hP hD hS (vp_in_iff.mpr (by have h9 : x12.toInt = ((12 * w.toInt) + n1.toInt) := tx12; omega)) dX12_role_115 (fun H locs hP hD hS => ?_)
            have hI := mInv_c hI (k := 67) (j := (x12 : Int32).toNatClampNeg) (x := w2) (show (w2 : Int32).toInt = -9 ∨ (0 ≤ (w2 : Int32).toInt ∧ (w2 : Int32).toInt ≤ 29) from by omega)
            have hfc : ∀ k, k ∉ ([67] : List Nat) → (updA c 67 (x12 : Int32).toNatClampNeg w2) k = c k := fr_cz hfc (by decide +kernel) (by decide +kernel)
            refine lv_iconst (v := 1) hx hb dX12_role_116 (by decide +kernel) ?_
            exact rw_iret (i, q, (updA c 67 (x12 : Int32).toNatClampNeg w2), d) hx hb hr hlocks hS (hK.sub (tys' := []) [] rfl) hP hD dX12_role_117 ⟨trivial, hI, fr_w hfi (by decide +kernel), fr_w hfc (by decide +kernel), (show RoW (c 67) ((updA c 67 (x12 : Int32).toNatClampNeg w2) 67) w n1 w2 (i 64) (i 5) (1 : Int32) (RBm (c 3) (c 6) (c 65) (c 66) w n1 w2) from Or.inr (Or.inr ⟨by unfold RA; omega, ⟨by omega, by omega, Or.inl (by omega)⟩, by decide, by show upd (c 67) (x12 : Int32).toNatClampNeg w2 = _; rw [cl_t (show (x12 : Int32).toInt = w.toInt * 12 + n1.toInt from by omega)]⟩))⟩
          · have f10 := mt (ti_eq (a := w2.toInt) (b := (-9)) rfl (by decide +kernel)).mpr c10
            refine lv_aload_n hx hb dX12_role_83 rfl (lv_at hl 0 rfl) ?_
            refine lv_iload_n hx hb dX12_role_84 rfl (lv_at hl 3 rfl) ?_
            refine lv_aload_n hx hb dX12_role_85 rfl (lv_at hl 0 rfl) ?_
            refine mget_65 hx hb hts (fun _ h => List.mem_cons_of_mem _ (List.mem_append_right _ h)) hown hK hP (hts (.fieldLink RX12 139 "TalePlayModel" "castSort" "[I") (List.mem_cons_of_mem _ (List.mem_append_left _ (List.mem_append_left _ (List.mem_of_getElem? (i := 7) rfl))))) dX12_role_86 ?_
            refine lv_iload_n hx hb dX12_role_89 rfl (lv_at hl 1 rfl) ?_
            refine mld_65 hx hb hK hP (vp_in_iff.mpr (by have h9 : w.toInt = w.toInt := rfl; omega)) dX12_role_90 (fun x13 ex13 => ?_)
            have rx13 : 0 ≤ x13.toInt ∧ x13.toInt ≤ 5 := by rw [ex13]; exact hI.2 65 _
            have gx13 : (c 65 (w : Int32).toNatClampNeg).toInt = x13.toInt := by rw [ex13]
            have gx9 : (c 65 w.toNatClampNeg).toInt = x13.toInt := gx13
            refine ro_calli (va_runV (As := [.int w2, .int x13]) (rest := []) ⟨hx, hb, hml, hown, hts⟩ (s_X12_isOf l D H.size o a t i q c d w2 x13 hI (show 0 ≤ w2.toInt ∧ w2.toInt ≤ 29 from by omega) (show 0 ≤ x13.toInt from by omega)) (cwV 2 hts gm_X12_role_X12_isOf rfl rfl rfl (by decide +kernel) ⟨Nat.le_of_ble_eq_true rfl, Nat.le_of_ble_eq_true rfl⟩) (pA_V hK hP (ci := 12) (q0 := 0) rfl rfl) rfl rfl hl.1 rfl (lv_room (Nat.le_of_ble_eq_true rfl)) dX12_role_91 ⟨Nat.le_of_ble_eq_true rfl, Nat.le_of_ble_eq_true rfl⟩) hS hA hP (fun r14 u14 H locs hw14 hP hS => ?_)
            have hw14 : ((0 ≤ r14.toInt ∧ r14.toInt ≤ 1) ∧ (Sm r14 (Kd (c 3) (c 6) w2.toInt x13.toInt))) := hw14
            obtain ⟨hw14, hr14_0⟩ := hw14
            have hr14_0 : Sm r14 (Kd (c 3) (c 6) w2.toInt x13.toInt) := hr14_0
            refine lv_if_ne (tgt := 104) hx hb dX12_role_94 (by decide +kernel) (fun c15 => ?_) (fun c15 => ?_)
            · have f15 := mt (ti_eq (a := r14.toInt) (b := 0) rfl (by decide +kernel)).mpr c15
              have s15 := sm_t hr14_0 c15
              refine lv_aload_n hx hb dX12_role_104 rfl (lv_at hl 0 rfl) ?_
              refine mget_67 hx hb hts (fun _ h => List.mem_cons_of_mem _ (List.mem_append_right _ h)) hown hK hP (hts (.fieldLink RX12 145 "TalePlayModel" "roles" "[I") (List.mem_cons_of_mem _ (List.mem_append_left _ (List.mem_append_left _ (List.mem_of_getElem? (i := 6) rfl))))) dX12_role_105 ?_
              refine lv_bipush (v := 12) hx hb dX12_role_108 (by decide +kernel) ?_
              refine lv_iload_n hx hb dX12_role_110 rfl (lv_at hl 1 rfl) ?_
              refine lv_imul hx hb dX12_role_111 ?_
              refine lv_topi (fun x16 ex16 => ?_)
              have tx16 := ti_mul (a := 12) (b := w.toInt) ex16 (by decide +kernel) rfl (by omega) (by omega)
              refine lv_iload_n hx hb dX12_role_112 rfl (lv_at hl 2 rfl) ?_
              refine lv_iadd hx hb dX12_role_113 ?_
              refine lv_topi (fun x17 ex17 => ?_)
              have tx17 := ti_add (a := (12 * w.toInt)) (b := n1.toInt) ex17 tx16 rfl (by omega) (by omega)
              refine lv_iload_n hx hb dX12_role_114 rfl (lv_at hl 3 rfl) ?_
              refine mst_67 hx hb hK hP hD hS (vp_in_iff.mpr (by have h9 : x17.toInt = ((12 * w.toInt) + n1.toInt) := tx17; omega)) dX12_role_115 (fun H locs hP hD hS => ?_)
              have hI := mInv_c hI (k := 67) (j := (x17 : Int32).toNatClampNeg) (x := w2) (show (w2 : Int32).toInt = -9 ∨ (0 ≤ (w2 : Int32).toInt ∧ (w2 : Int32).toInt ≤ 29) from by omega)
              have hfc : ∀ k, k ∉ ([67] : List Nat) → (updA c 67 (x17 : Int32).toNatClampNeg w2) k = c k := fr_cz hfc (by decide +kernel) (by decide +kernel)
              refine lv_iconst (v := 1) hx hb dX12_role_116 (by decide +kernel) ?_
              exact rw_iret (i, q, (updA c 67 (x17 : Int32).toNatClampNeg w2), d) hx hb hr hlocks hS (hK.sub (tys' := []) [] rfl) hP hD dX12_role_117 ⟨trivial, hI, fr_w hfi (by decide +kernel), fr_w hfc (by decide +kernel), (show RoW (c 67) ((updA c 67 (x17 : Int32).toNatClampNeg w2) 67) w n1 w2 (i 64) (i 5) (1 : Int32) (RBm (c 3) (c 6) (c 65) (c 66) w n1 w2) from Or.inr (Or.inr ⟨by unfold RA; omega, ⟨by omega, by omega, by exfalso; omega⟩, by decide, by show upd (c 67) (x17 : Int32).toNatClampNeg w2 = _; rw [cl_t (show (x17 : Int32).toInt = w.toInt * 12 + n1.toInt from by omega)]⟩))⟩
            · have f15 := (ti_eq (a := r14.toInt) (b := 0) rfl (by decide +kernel)).mp c15
              have s15 := sm_f hr14_0 c15
              refine lv_aload_n hx hb dX12_role_97 rfl (lv_at hl 0 rfl) ?_
              refine lv_bipush (v := 6) hx hb dX12_role_98 (by decide +kernel) ?_
              refine al_calli (va_runV (As := [.int 6]) (rest := []) ⟨hx, hb, hml, hown, hts⟩ (s_X12_meets l D H.size o a t i q c d 6 hI (show 1 ≤ 6 ∧ 6 ≤ 6 from by decide +kernel)) (cwV 1 hts gm_X12_role_X12_meets rfl rfl rfl (by decide +kernel) ⟨Nat.le_of_ble_eq_true rfl, Nat.le_of_ble_eq_true rfl⟩) (pB_V hK hP hD (ci := 12) (q0 := 0) rfl rfl) rfl rfl hl.1 rfl (lv_room (Nat.le_of_ble_eq_true rfl)) dX12_role_100 ⟨Nat.le_of_ble_eq_true rfl, Nat.le_of_ble_eq_true rfl⟩) hS hA hP hD (fun r18 u18 H locs hw18 hP hD hS => ?_)
              obtain ⟨i18, q18, c18, d18⟩ := u18
              have hw18 : r18 = (-3) ∧ mInv i18 c18 ∧ (∀ k, k ∉ ([0] : List Nat) → i18 k = i k) ∧ (∀ k, k ∉ ([1] : List Nat) → c18 k = c k) := hw18
              obtain ⟨hw18, hI, hei18, hec18⟩ := hw18
              have hfi : ∀ k, k ∉ ([0] : List Nat) → i18 k = i k := fr_z hfi hei18 (by decide +kernel) (by decide +kernel)
              have hfc : ∀ k, k ∉ ([1] : List Nat) → c18 k = c k := fr_z hfc hec18 (by decide +kernel) (by decide +kernel)
              have hP : va_P D vwCl (mW o a t i18 q18 c18 d18) H := hP
              have hD : va_D A (mW o a t i18 q18 c18 d18) := hD
              have hw18 : r18 = (-3) := hw18
              subst hw18
              exact rw_iret (i18, q18, c18, d18) hx hb hr hlocks hS (hK.sub (tys' := []) [] rfl) hP hD dX12_role_103 ⟨trivial, hI, fr_w hfi (by decide +kernel), fr_w hfc (by decide +kernel), (show RoW (c 67) (c18 67) w n1 w2 (i 64) (i 5) ((-3) : Int32) (RBm (c 3) (c 6) (c 65) (c 66) w n1 w2) from Or.inr (Or.inl ⟨by unfold RA; omega, fun h9 => by rcases h9.2.2 with h8 | h8; (· omega); (· have h7 := h8.2; rw [gx9] at h7; exact s15 h7), by decide, hfc 67 (by decide +kernel)⟩))⟩
        · have f9 := fl_f hw8 c9
          refine lv_aload_n hx hb dX12_role_71 rfl (lv_at hl 0 rfl) ?_
          refine lv_iconst (v := 2) hx hb dX12_role_72 (by decide +kernel) ?_
          refine al_calli (va_runV (As := [.int 2]) (rest := []) ⟨hx, hb, hml, hown, hts⟩ (s_X12_meets l D H.size o a t i q c d 2 hI (show 1 ≤ 2 ∧ 2 ≤ 6 from by decide +kernel)) (cwV 1 hts gm_X12_role_X12_meets rfl rfl rfl (by decide +kernel) ⟨Nat.le_of_ble_eq_true rfl, Nat.le_of_ble_eq_true rfl⟩) (pB_V hK hP hD (ci := 12) (q0 := 0) rfl rfl) rfl rfl hl.1 rfl (lv_room (Nat.le_of_ble_eq_true rfl)) dX12_role_73 ⟨Nat.le_of_ble_eq_true rfl, Nat.le_of_ble_eq_true rfl⟩) hS hA hP hD (fun r19 u19 H locs hw19 hP hD hS => ?_)
          obtain ⟨i19, q19, c19, d19⟩ := u19
          have hw19 : r19 = (-3) ∧ mInv i19 c19 ∧ (∀ k, k ∉ ([0] : List Nat) → i19 k = i k) ∧ (∀ k, k ∉ ([1] : List Nat) → c19 k = c k) := hw19
          obtain ⟨hw19, hI, hei19, hec19⟩ := hw19
          have hfi : ∀ k, k ∉ ([0] : List Nat) → i19 k = i k := fr_z hfi hei19 (by decide +kernel) (by decide +kernel)
          have hfc : ∀ k, k ∉ ([1] : List Nat) → c19 k = c k := fr_z hfc hec19 (by decide +kernel) (by decide +kernel)
          have hP : va_P D vwCl (mW o a t i19 q19 c19 d19) H := hP
          have hD : va_D A (mW o a t i19 q19 c19 d19) := hD
          have hw19 : r19 = (-3) := hw19
          subst hw19
          exact rw_iret (i19, q19, c19, d19) hx hb hr hlocks hS (hK.sub (tys' := []) [] rfl) hP hD dX12_role_76 ⟨trivial, hI, fr_w hfi (by decide +kernel), fr_w hfc (by decide +kernel), (show RoW (c 67) (c19 67) w n1 w2 (i 64) (i 5) ((-3) : Int32) (RBm (c 3) (c 6) (c 65) (c 66) w n1 w2) from Or.inr (Or.inl ⟨by unfold RA; omega, fun h9 => by have h8 := h9.1; have h7 := h9.2.1; omega, by decide, hfc 67 (by decide +kernel)⟩))⟩
      · have f5 := mt (ti_eq (a := w2.toInt) (b := (-9)) rfl (by decide +kernel)).mpr c5
        refine lv_aload_n hx hb dX12_role_38 rfl (lv_at hl 0 rfl) ?_
        refine lv_iload_n hx hb dX12_role_39 rfl (lv_at hl 3 rfl) ?_
        refine lv_iconst (v := 0) hx hb dX12_role_40 (by decide +kernel) ?_
        refine ro_calli (va_runV (As := [.int w2, .int 0]) (rest := []) ⟨hx, hb, hml, hown, hts⟩ (s_X12_isOf l D H.size o a t i q c d w2 0 hI (show 0 ≤ w2.toInt ∧ w2.toInt ≤ 29 from by have h91 : (0 : Int32).toInt = 0 := (by decide +kernel); omega) (show 0 ≤ 0 from by decide +kernel)) (cwV 2 hts gm_X12_role_X12_isOf rfl rfl rfl (by decide +kernel) ⟨Nat.le_of_ble_eq_true rfl, Nat.le_of_ble_eq_true rfl⟩) (pA_V hK hP (ci := 12) (q0 := 0) rfl rfl) rfl rfl hl.1 rfl (lv_room (Nat.le_of_ble_eq_true rfl)) dX12_role_41 ⟨Nat.le_of_ble_eq_true rfl, Nat.le_of_ble_eq_true rfl⟩) hS hA hP (fun r20 u20 H locs hw20 hP hS => ?_)
        have hw20 : ((0 ≤ r20.toInt ∧ r20.toInt ≤ 1) ∧ (Sm r20 (Kd (c 3) (c 6) w2.toInt 0))) := hw20
        obtain ⟨hw20, hr20_0⟩ := hw20
        have hr20_0 : Sm r20 (Kd (c 3) (c 6) w2.toInt 0) := hr20_0
        refine lv_if_eq (tgt := 53) hx hb dX12_role_44 (by decide +kernel) (fun c21 => ?_) (fun c21 => ?_)
        · have f21 := (ti_eq (a := r20.toInt) (b := 0) rfl (by decide +kernel)).mp c21
          have s21 := sm_f hr20_0 c21
          refine lv_iload_n hx hb dX12_role_53 rfl (lv_at hl 2 rfl) ?_
          refine lv_i2l (v := n1.toInt64) hx hb dX12_role_54 rfl ?_
          refine lv_lconst (v := 0) hx hb dX12_role_55 (by decide +kernel) ?_
          refine lv_aload_n hx hb dX12_role_56 rfl (lv_at hl 0 rfl) ?_
          refine mget_66 hx hb hts (fun _ h => List.mem_cons_of_mem _ (List.mem_append_right _ h)) hown hK hP (hts (.fieldLink RX12 142 "TalePlayModel" "castMany" "[I") (List.mem_cons_of_mem _ (List.mem_append_left _ (List.mem_append_left _ (List.mem_of_getElem? (i := 5) rfl))))) dX12_role_57 ?_
          refine lv_iload_n hx hb dX12_role_60 rfl (lv_at hl 1 rfl) ?_
          refine mld_66 hx hb hK hP (vp_in_iff.mpr (by have h9 : w.toInt = w.toInt := rfl; omega)) dX12_role_61 (fun x22 ex22 => ?_)
          have rx22 : 0 ≤ x22.toInt ∧ x22.toInt ≤ 12 := by rw [ex22]; exact hI.2 66 _
          have gx22 : (c 66 (w : Int32).toNatClampNeg).toInt = x22.toInt := by rw [ex22]
          refine lv_iconst (v := 1) hx hb dX12_role_62 (by decide +kernel) ?_
          refine lv_isub hx hb dX12_role_63 ?_
          refine lv_topi (fun x23 ex23 => ?_)
          have tx23 := ti_sub (a := x22.toInt) (b := 1) ex23 rfl (by decide +kernel) (by omega) (by omega)
          refine lv_i2l (v := x23.toInt64) hx hb dX12_role_64 rfl ?_
          have hPc := hP.sub (ws' := []) [] rfl
          have hKc := hK.sub (tys' := []) [] rfl
          refine ro_calli (va_runS (As := [.long n1.toInt64, .long 0, .long x23.toInt64]) (rest := []) ⟨hx, hb, hml, hown, hts⟩ (c_X12_in l D H.size n1.toInt64 0 x23.toInt64 n1.toInt 0 (x22.toInt - 1) ((Int32.toInt_toInt64 n1).trans rfl) (by decide +kernel) ((Int32.toInt_toInt64 x23).trans tx23)) (va_cwS 3 hts gm_X12_role_X12_in rfl rfl rfl (by decide +kernel) ⟨Nat.le_of_ble_eq_true rfl, Nat.le_of_ble_eq_true rfl⟩) (pA_S hKc hPc) rfl rfl hl.1 rfl (lv_room (Nat.le_of_ble_eq_true rfl)) dX12_role_65 ⟨Nat.le_of_ble_eq_true rfl, Nat.le_of_ble_eq_true rfl⟩) hS hA hP (fun r24 u24 H locs hw24 hP hS => ?_)
          have hw24 : r24 = if (0 ≤ n1.toInt ∧ n1.toInt ≤ (x22.toInt - 1)) then 1 else 0 := hw24
          refine lv_if_ne (tgt := 77) hx hb dX12_role_68 (by decide +kernel) (fun c25 => ?_) (fun c25 => ?_)
          · have f25 := fl_t hw24 c25
            refine lv_iload_n hx hb dX12_role_77 rfl (lv_at hl 3 rfl) ?_
            refine lv_bipush (v := (-9)) hx hb dX12_role_78 (by decide +kernel) ?_
            refine lv_icmp_eq (tgt := 104) hx hb dX12_role_80 (by decide +kernel) (fun c26 => ?_) (fun c26 => ?_)
            · have f26 := (ti_eq (a := w2.toInt) (b := (-9)) rfl (by decide +kernel)).mp c26
              refine lv_aload_n hx hb dX12_role_104 rfl (lv_at hl 0 rfl) ?_
              refine mget_67 hx hb hts (fun _ h => List.mem_cons_of_mem _ (List.mem_append_right _ h)) hown hK hP (hts (.fieldLink RX12 145 "TalePlayModel" "roles" "[I") (List.mem_cons_of_mem _ (List.mem_append_left _ (List.mem_append_left _ (List.mem_of_getElem? (i := 6) rfl))))) dX12_role_105 ?_
              refine lv_bipush (v := 12) hx hb dX12_role_108 (by decide +kernel) ?_
              refine lv_iload_n hx hb dX12_role_110 rfl (lv_at hl 1 rfl) ?_
              refine lv_imul hx hb dX12_role_111 ?_
              refine lv_topi (fun x27 ex27 => ?_)
              have tx27 := ti_mul (a := 12) (b := w.toInt) ex27 (by decide +kernel) rfl (by omega) (by omega)
              refine lv_iload_n hx hb dX12_role_112 rfl (lv_at hl 2 rfl) ?_
              refine lv_iadd hx hb dX12_role_113 ?_
              refine lv_topi (fun x28 ex28 => ?_)
              have tx28 := ti_add (a := (12 * w.toInt)) (b := n1.toInt) ex28 tx27 rfl (by omega) (by omega)
              refine lv_iload_n hx hb dX12_role_114 rfl (lv_at hl 3 rfl) ?_
              refine mst_67 hx hb hK hP hD hS (vp_in_iff.mpr (by have h9 : x28.toInt = ((12 * w.toInt) + n1.toInt) := tx28; omega)) dX12_role_115 (fun H locs hP hD hS => ?_)
              have hI := mInv_c hI (k := 67) (j := (x28 : Int32).toNatClampNeg) (x := w2) (show (w2 : Int32).toInt = -9 ∨ (0 ≤ (w2 : Int32).toInt ∧ (w2 : Int32).toInt ≤ 29) from by omega)
              have hfc : ∀ k, k ∉ ([67] : List Nat) → (updA c 67 (x28 : Int32).toNatClampNeg w2) k = c k := fr_cz hfc (by decide +kernel) (by decide +kernel)
              refine lv_iconst (v := 1) hx hb dX12_role_116 (by decide +kernel) ?_
              exact rw_iret (i, q, (updA c 67 (x28 : Int32).toNatClampNeg w2), d) hx hb hr hlocks hS (hK.sub (tys' := []) [] rfl) hP hD dX12_role_117 ⟨trivial, hI, fr_w hfi (by decide +kernel), fr_w hfc (by decide +kernel), (show RoW (c 67) ((updA c 67 (x28 : Int32).toNatClampNeg w2) 67) w n1 w2 (i 64) (i 5) (1 : Int32) (RBm (c 3) (c 6) (c 65) (c 66) w n1 w2) from Or.inr (Or.inr ⟨by unfold RA; omega, ⟨by omega, by omega, by exfalso; omega⟩, by decide, by show upd (c 67) (x28 : Int32).toNatClampNeg w2 = _; rw [cl_t (show (x28 : Int32).toInt = w.toInt * 12 + n1.toInt from by omega)]⟩))⟩
            · have f26 := mt (ti_eq (a := w2.toInt) (b := (-9)) rfl (by decide +kernel)).mpr c26
              refine lv_aload_n hx hb dX12_role_83 rfl (lv_at hl 0 rfl) ?_
              refine lv_iload_n hx hb dX12_role_84 rfl (lv_at hl 3 rfl) ?_
              refine lv_aload_n hx hb dX12_role_85 rfl (lv_at hl 0 rfl) ?_
              refine mget_65 hx hb hts (fun _ h => List.mem_cons_of_mem _ (List.mem_append_right _ h)) hown hK hP (hts (.fieldLink RX12 139 "TalePlayModel" "castSort" "[I") (List.mem_cons_of_mem _ (List.mem_append_left _ (List.mem_append_left _ (List.mem_of_getElem? (i := 7) rfl))))) dX12_role_86 ?_
              refine lv_iload_n hx hb dX12_role_89 rfl (lv_at hl 1 rfl) ?_
              refine mld_65 hx hb hK hP (vp_in_iff.mpr (by have h9 : w.toInt = w.toInt := rfl; omega)) dX12_role_90 (fun x29 ex29 => ?_)
              have rx29 : 0 ≤ x29.toInt ∧ x29.toInt ≤ 5 := by rw [ex29]; exact hI.2 65 _
              have gx29 : (c 65 (w : Int32).toNatClampNeg).toInt = x29.toInt := by rw [ex29]
              have gx9 : (c 65 w.toNatClampNeg).toInt = x29.toInt := gx29
              refine ro_calli (va_runV (As := [.int w2, .int x29]) (rest := []) ⟨hx, hb, hml, hown, hts⟩ (s_X12_isOf l D H.size o a t i q c d w2 x29 hI (show 0 ≤ w2.toInt ∧ w2.toInt ≤ 29 from by omega) (show 0 ≤ x29.toInt from by omega)) (cwV 2 hts gm_X12_role_X12_isOf rfl rfl rfl (by decide +kernel) ⟨Nat.le_of_ble_eq_true rfl, Nat.le_of_ble_eq_true rfl⟩) (pA_V hK hP (ci := 12) (q0 := 0) rfl rfl) rfl rfl hl.1 rfl (lv_room (Nat.le_of_ble_eq_true rfl)) dX12_role_91 ⟨Nat.le_of_ble_eq_true rfl, Nat.le_of_ble_eq_true rfl⟩) hS hA hP (fun r30 u30 H locs hw30 hP hS => ?_)
              have hw30 : ((0 ≤ r30.toInt ∧ r30.toInt ≤ 1) ∧ (Sm r30 (Kd (c 3) (c 6) w2.toInt x29.toInt))) := hw30
              obtain ⟨hw30, hr30_0⟩ := hw30
              have hr30_0 : Sm r30 (Kd (c 3) (c 6) w2.toInt x29.toInt) := hr30_0
              refine lv_if_ne (tgt := 104) hx hb dX12_role_94 (by decide +kernel) (fun c31 => ?_) (fun c31 => ?_)
              · have f31 := mt (ti_eq (a := r30.toInt) (b := 0) rfl (by decide +kernel)).mpr c31
                have s31 := sm_t hr30_0 c31
                refine lv_aload_n hx hb dX12_role_104 rfl (lv_at hl 0 rfl) ?_
                refine mget_67 hx hb hts (fun _ h => List.mem_cons_of_mem _ (List.mem_append_right _ h)) hown hK hP (hts (.fieldLink RX12 145 "TalePlayModel" "roles" "[I") (List.mem_cons_of_mem _ (List.mem_append_left _ (List.mem_append_left _ (List.mem_of_getElem? (i := 6) rfl))))) dX12_role_105 ?_
                refine lv_bipush (v := 12) hx hb dX12_role_108 (by decide +kernel) ?_
                refine lv_iload_n hx hb dX12_role_110 rfl (lv_at hl 1 rfl) ?_
                refine lv_imul hx hb dX12_role_111 ?_
                refine lv_topi (fun x32 ex32 => ?_)
                have tx32 := ti_mul (a := 12) (b := w.toInt) ex32 (by decide +kernel) rfl (by omega) (by omega)
                refine lv_iload_n hx hb dX12_role_112 rfl (lv_at hl 2 rfl) ?_
                refine lv_iadd hx hb dX12_role_113 ?_
                refine lv_topi (fun x33 ex33 => ?_)
                have tx33 := ti_add (a := (12 * w.toInt)) (b := n1.toInt) ex33 tx32 rfl (by omega) (by omega)
                refine lv_iload_n hx hb dX12_role_114 rfl (lv_at hl 3 rfl) ?_
                refine mst_67 hx hb hK hP hD hS (vp_in_iff.mpr (by have h9 : x33.toInt = ((12 * w.toInt) + n1.toInt) := tx33; omega)) dX12_role_115 (fun H locs hP hD hS => ?_)
                have hI := mInv_c hI (k := 67) (j := (x33 : Int32).toNatClampNeg) (x := w2) (show (w2 : Int32).toInt = -9 ∨ (0 ≤ (w2 : Int32).toInt ∧ (w2 : Int32).toInt ≤ 29) from by omega)
                have hfc : ∀ k, k ∉ ([67] : List Nat) → (updA c 67 (x33 : Int32).toNatClampNeg w2) k = c k := fr_cz hfc (by decide +kernel) (by decide +kernel)
                refine lv_iconst (v := 1) hx hb dX12_role_116 (by decide +kernel) ?_
                exact rw_iret (i, q, (updA c 67 (x33 : Int32).toNatClampNeg w2), d) hx hb hr hlocks hS (hK.sub (tys' := []) [] rfl) hP hD dX12_role_117 ⟨trivial, hI, fr_w hfi (by decide +kernel), fr_w hfc (by decide +kernel), (show RoW (c 67) ((updA c 67 (x33 : Int32).toNatClampNeg w2) 67) w n1 w2 (i 64) (i 5) (1 : Int32) (RBm (c 3) (c 6) (c 65) (c 66) w n1 w2) from Or.inr (Or.inr ⟨by unfold RA; omega, ⟨by omega, by omega, Or.inr ⟨s21, by have h9 := s31; rw [← gx9] at h9; exact h9⟩⟩, by decide, by show upd (c 67) (x33 : Int32).toNatClampNeg w2 = _; rw [cl_t (show (x33 : Int32).toInt = w.toInt * 12 + n1.toInt from by omega)]⟩))⟩
              · have f31 := (ti_eq (a := r30.toInt) (b := 0) rfl (by decide +kernel)).mp c31
                have s31 := sm_f hr30_0 c31
                refine lv_aload_n hx hb dX12_role_97 rfl (lv_at hl 0 rfl) ?_
                refine lv_bipush (v := 6) hx hb dX12_role_98 (by decide +kernel) ?_
                refine al_calli (va_runV (As := [.int 6]) (rest := []) ⟨hx, hb, hml, hown, hts⟩ (s_X12_meets l D H.size o a t i q c d 6 hI (show 1 ≤ 6 ∧ 6 ≤ 6 from by decide +kernel)) (cwV 1 hts gm_X12_role_X12_meets rfl rfl rfl (by decide +kernel) ⟨Nat.le_of_ble_eq_true rfl, Nat.le_of_ble_eq_true rfl⟩) (pB_V hK hP hD (ci := 12) (q0 := 0) rfl rfl) rfl rfl hl.1 rfl (lv_room (Nat.le_of_ble_eq_true rfl)) dX12_role_100 ⟨Nat.le_of_ble_eq_true rfl, Nat.le_of_ble_eq_true rfl⟩) hS hA hP hD (fun r34 u34 H locs hw34 hP hD hS => ?_)
                obtain ⟨i34, q34, c34, d34⟩ := u34
                have hw34 : r34 = (-3) ∧ mInv i34 c34 ∧ (∀ k, k ∉ ([0] : List Nat) → i34 k = i k) ∧ (∀ k, k ∉ ([1] : List Nat) → c34 k = c k) := hw34
                obtain ⟨hw34, hI, hei34, hec34⟩ := hw34
                have hfi : ∀ k, k ∉ ([0] : List Nat) → i34 k = i k := fr_z hfi hei34 (by decide +kernel) (by decide +kernel)
                have hfc : ∀ k, k ∉ ([1] : List Nat) → c34 k = c k := fr_z hfc hec34 (by decide +kernel) (by decide +kernel)
                have hP : va_P D vwCl (mW o a t i34 q34 c34 d34) H := hP
                have hD : va_D A (mW o a t i34 q34 c34 d34) := hD
                have hw34 : r34 = (-3) := hw34
                subst hw34
                exact rw_iret (i34, q34, c34, d34) hx hb hr hlocks hS (hK.sub (tys' := []) [] rfl) hP hD dX12_role_103 ⟨trivial, hI, fr_w hfi (by decide +kernel), fr_w hfc (by decide +kernel), (show RoW (c 67) (c34 67) w n1 w2 (i 64) (i 5) ((-3) : Int32) (RBm (c 3) (c 6) (c 65) (c 66) w n1 w2) from Or.inr (Or.inl ⟨by unfold RA; omega, fun h9 => by rcases h9.2.2 with h8 | h8; (· omega); (· have h7 := h8.2; rw [gx9] at h7; exact s31 h7), by decide, hfc 67 (by decide +kernel)⟩))⟩
          · have f25 := fl_f hw24 c25
            refine lv_aload_n hx hb dX12_role_71 rfl (lv_at hl 0 rfl) ?_
            refine lv_iconst (v := 2) hx hb dX12_role_72 (by decide +kernel) ?_
            refine al_calli (va_runV (As := [.int 2]) (rest := []) ⟨hx, hb, hml, hown, hts⟩ (s_X12_meets l D H.size o a t i q c d 2 hI (show 1 ≤ 2 ∧ 2 ≤ 6 from by decide +kernel)) (cwV 1 hts gm_X12_role_X12_meets rfl rfl rfl (by decide +kernel) ⟨Nat.le_of_ble_eq_true rfl, Nat.le_of_ble_eq_true rfl⟩) (pB_V hK hP hD (ci := 12) (q0 := 0) rfl rfl) rfl rfl hl.1 rfl (lv_room (Nat.le_of_ble_eq_true rfl)) dX12_role_73 ⟨Nat.le_of_ble_eq_true rfl, Nat.le_of_ble_eq_true rfl⟩) hS hA hP hD (fun r35 u35 H locs hw35 hP hD hS => ?_)
            obtain ⟨i35, q35, c35, d35⟩ := u35
            have hw35 : r35 = (-3) ∧ mInv i35 c35 ∧ (∀ k, k ∉ ([0] : List Nat) → i35 k = i k) ∧ (∀ k, k ∉ ([1] : List Nat) → c35 k = c k) := hw35
            obtain ⟨hw35, hI, hei35, hec35⟩ := hw35
            have hfi : ∀ k, k ∉ ([0] : List Nat) → i35 k = i k := fr_z hfi hei35 (by decide +kernel) (by decide +kernel)
            have hfc : ∀ k, k ∉ ([1] : List Nat) → c35 k = c k := fr_z hfc hec35 (by decide +kernel) (by decide +kernel)
            have hP : va_P D vwCl (mW o a t i35 q35 c35 d35) H := hP
            have hD : va_D A (mW o a t i35 q35 c35 d35) := hD
            have hw35 : r35 = (-3) := hw35
            subst hw35
            exact rw_iret (i35, q35, c35, d35) hx hb hr hlocks hS (hK.sub (tys' := []) [] rfl) hP hD dX12_role_76 ⟨trivial, hI, fr_w hfi (by decide +kernel), fr_w hfc (by decide +kernel), (show RoW (c 67) (c35 67) w n1 w2 (i 64) (i 5) ((-3) : Int32) (RBm (c 3) (c 6) (c 65) (c 66) w n1 w2) from Or.inr (Or.inl ⟨by unfold RA; omega, fun h9 => by have h8 := h9.1; have h7 := h9.2.1; omega, by decide, hfc 67 (by decide +kernel)⟩))⟩
        · have f21 := mt (ti_eq (a := r20.toInt) (b := 0) rfl (by decide +kernel)).mpr c21
          have s21 := sm_t hr20_0 c21
          refine lv_aload_n hx hb dX12_role_47 rfl (lv_at hl 0 rfl) ?_
          refine lv_iconst (v := 3) hx hb dX12_role_48 (by decide +kernel) ?_
          refine al_calli (va_runV (As := [.int 3]) (rest := []) ⟨hx, hb, hml, hown, hts⟩ (s_X12_meets l D H.size o a t i q c d 3 hI (show 1 ≤ 3 ∧ 3 ≤ 6 from by decide +kernel)) (cwV 1 hts gm_X12_role_X12_meets rfl rfl rfl (by decide +kernel) ⟨Nat.le_of_ble_eq_true rfl, Nat.le_of_ble_eq_true rfl⟩) (pB_V hK hP hD (ci := 12) (q0 := 0) rfl rfl) rfl rfl hl.1 rfl (lv_room (Nat.le_of_ble_eq_true rfl)) dX12_role_49 ⟨Nat.le_of_ble_eq_true rfl, Nat.le_of_ble_eq_true rfl⟩) hS hA hP hD (fun r36 u36 H locs hw36 hP hD hS => ?_)
          obtain ⟨i36, q36, c36, d36⟩ := u36
          have hw36 : r36 = (-3) ∧ mInv i36 c36 ∧ (∀ k, k ∉ ([0] : List Nat) → i36 k = i k) ∧ (∀ k, k ∉ ([1] : List Nat) → c36 k = c k) := hw36
          obtain ⟨hw36, hI, hei36, hec36⟩ := hw36
          have hfi : ∀ k, k ∉ ([0] : List Nat) → i36 k = i k := fr_z hfi hei36 (by decide +kernel) (by decide +kernel)
          have hfc : ∀ k, k ∉ ([1] : List Nat) → c36 k = c k := fr_z hfc hec36 (by decide +kernel) (by decide +kernel)
          have hP : va_P D vwCl (mW o a t i36 q36 c36 d36) H := hP
          have hD : va_D A (mW o a t i36 q36 c36 d36) := hD
          have hw36 : r36 = (-3) := hw36
          subst hw36
          exact rw_iret (i36, q36, c36, d36) hx hb hr hlocks hS (hK.sub (tys' := []) [] rfl) hP hD dX12_role_52 ⟨trivial, hI, fr_w hfi (by decide +kernel), fr_w hfc (by decide +kernel), (show RoW (c 67) (c36 67) w n1 w2 (i 64) (i 5) ((-3) : Int32) (RBm (c 3) (c 6) (c 65) (c 66) w n1 w2) from Or.inr (Or.inl ⟨by unfold RA; omega, fun h9 => by rcases h9.2.2 with h8 | h8; (· omega); (· exact h8.1 s21), by decide, hfc 67 (by decide +kernel)⟩))⟩
    · have f4 := mt (ti_eq (a := w2.toInt) (b := (-9)) rfl (by decide +kernel)).mpr c4
      refine lv_aload_n hx hb dX12_role_22 rfl (lv_at hl 0 rfl) ?_
      refine lv_iload_n hx hb dX12_role_23 rfl (lv_at hl 3 rfl) ?_
      refine ro_calli (va_runV (As := [.int w2]) (rest := []) ⟨hx, hb, hml, hown, hts⟩ (s_X12_isObject l D H.size o a t i q c d w2 hI ) (cwV 1 hts gm_X12_role_X12_isObject rfl rfl rfl (by decide +kernel) ⟨Nat.le_of_ble_eq_true rfl, Nat.le_of_ble_eq_true rfl⟩) (pA_V hK hP (ci := 12) (q0 := 0) rfl rfl) rfl rfl hl.1 rfl (lv_room (Nat.le_of_ble_eq_true rfl)) dX12_role_24 ⟨Nat.le_of_ble_eq_true rfl, Nat.le_of_ble_eq_true rfl⟩) hS hA hP (fun r37 u37 H locs hw37 hP hS => ?_)
      have hw37 : r37 = if (0 ≤ w2.toInt ∧ w2.toInt ≤ (i 5).toInt - 1) then 1 else 0 := hw37
      refine lv_if_ne (tgt := 32) hx hb dX12_role_27 (by decide +kernel) (fun c38 => ?_) (fun c38 => ?_)
      · have f38 := fl_t hw37 c38
        refine lv_iload_n hx hb dX12_role_32 rfl (lv_at hl 3 rfl) ?_
        refine lv_bipush (v := (-9)) hx hb dX12_role_33 (by decide +kernel) ?_
        refine lv_icmp_eq (tgt := 53) hx hb dX12_role_35 (by decide +kernel) (fun c39 => ?_) (fun c39 => ?_)
        · have f39 := (ti_eq (a := w2.toInt) (b := (-9)) rfl (by decide +kernel)).mp c39
          refine lv_iload_n hx hb dX12_role_53 rfl (lv_at hl 2 rfl) ?_
          refine lv_i2l (v := n1.toInt64) hx hb dX12_role_54 rfl ?_
          refine lv_lconst (v := 0) hx hb dX12_role_55 (by decide +kernel) ?_
          refine lv_aload_n hx hb dX12_role_56 rfl (lv_at hl 0 rfl) ?_
          refine mget_66 hx hb hts (fun _ h => List.mem_cons_of_mem _ (List.mem_append_right _ h)) hown hK hP (hts (.fieldLink RX12 142 "TalePlayModel" "castMany" "[I") (List.mem_cons_of_mem _ (List.mem_append_left _ (List.mem_append_left _ (List.mem_of_getElem? (i := 5) rfl))))) dX12_role_57 ?_
          refine lv_iload_n hx hb dX12_role_60 rfl (lv_at hl 1 rfl) ?_
          refine mld_66 hx hb hK hP (vp_in_iff.mpr (by have h9 : w.toInt = w.toInt := rfl; omega)) dX12_role_61 (fun x40 ex40 => ?_)
          have rx40 : 0 ≤ x40.toInt ∧ x40.toInt ≤ 12 := by rw [ex40]; exact hI.2 66 _
          have gx40 : (c 66 (w : Int32).toNatClampNeg).toInt = x40.toInt := by rw [ex40]
          refine lv_iconst (v := 1) hx hb dX12_role_62 (by decide +kernel) ?_
          refine lv_isub hx hb dX12_role_63 ?_
          refine lv_topi (fun x41 ex41 => ?_)
          have tx41 := ti_sub (a := x40.toInt) (b := 1) ex41 rfl (by decide +kernel) (by omega) (by omega)
          refine lv_i2l (v := x41.toInt64) hx hb dX12_role_64 rfl ?_
          have hPc := hP.sub (ws' := []) [] rfl
          have hKc := hK.sub (tys' := []) [] rfl
          refine ro_calli (va_runS (As := [.long n1.toInt64, .long 0, .long x41.toInt64]) (rest := []) ⟨hx, hb, hml, hown, hts⟩ (c_X12_in l D H.size n1.toInt64 0 x41.toInt64 n1.toInt 0 (x40.toInt - 1) ((Int32.toInt_toInt64 n1).trans rfl) (by decide +kernel) ((Int32.toInt_toInt64 x41).trans tx41)) (va_cwS 3 hts gm_X12_role_X12_in rfl rfl rfl (by decide +kernel) ⟨Nat.le_of_ble_eq_true rfl, Nat.le_of_ble_eq_true rfl⟩) (pA_S hKc hPc) rfl rfl hl.1 rfl (lv_room (Nat.le_of_ble_eq_true rfl)) dX12_role_65 ⟨Nat.le_of_ble_eq_true rfl, Nat.le_of_ble_eq_true rfl⟩) hS hA hP (fun r42 u42 H locs hw42 hP hS => ?_)
          have hw42 : r42 = if (0 ≤ n1.toInt ∧ n1.toInt ≤ (x40.toInt - 1)) then 1 else 0 := hw42
          refine lv_if_ne (tgt := 77) hx hb dX12_role_68 (by decide +kernel) (fun c43 => ?_) (fun c43 => ?_)
          · have f43 := fl_t hw42 c43
            refine lv_iload_n hx hb dX12_role_77 rfl (lv_at hl 3 rfl) ?_
            refine lv_bipush (v := (-9)) hx hb dX12_role_78 (by decide +kernel) ?_
            refine lv_icmp_eq (tgt := 104) hx hb dX12_role_80 (by decide +kernel) (fun c44 => ?_) (fun c44 => ?_)
            · have f44 := (ti_eq (a := w2.toInt) (b := (-9)) rfl (by decide +kernel)).mp c44
              refine lv_aload_n hx hb dX12_role_104 rfl (lv_at hl 0 rfl) ?_
              refine mget_67 hx hb hts (fun _ h => List.mem_cons_of_mem _ (List.mem_append_right _ h)) hown hK hP (hts (.fieldLink RX12 145 "TalePlayModel" "roles" "[I") (List.mem_cons_of_mem _ (List.mem_append_left _ (List.mem_append_left _ (List.mem_of_getElem? (i := 6) rfl))))) dX12_role_105 ?_
              refine lv_bipush (v := 12) hx hb dX12_role_108 (by decide +kernel) ?_
              refine lv_iload_n hx hb dX12_role_110 rfl (lv_at hl 1 rfl) ?_
              refine lv_imul hx hb dX12_role_111 ?_
              refine lv_topi (fun x45 ex45 => ?_)
              have tx45 := ti_mul (a := 12) (b := w.toInt) ex45 (by decide +kernel) rfl (by omega) (by omega)
              refine lv_iload_n hx hb dX12_role_112 rfl (lv_at hl 2 rfl) ?_
              refine lv_iadd hx hb dX12_role_113 ?_
              refine lv_topi (fun x46 ex46 => ?_)
              have tx46 := ti_add (a := (12 * w.toInt)) (b := n1.toInt) ex46 tx45 rfl (by omega) (by omega)
              refine lv_iload_n hx hb dX12_role_114 rfl (lv_at hl 3 rfl) ?_
              refine mst_67 hx hb hK hP hD hS (vp_in_iff.mpr (by have h9 : x46.toInt = ((12 * w.toInt) + n1.toInt) := tx46; omega)) dX12_role_115 (fun H locs hP hD hS => ?_)
              have hI := mInv_c hI (k := 67) (j := (x46 : Int32).toNatClampNeg) (x := w2) (show (w2 : Int32).toInt = -9 ∨ (0 ≤ (w2 : Int32).toInt ∧ (w2 : Int32).toInt ≤ 29) from by omega)
              have hfc : ∀ k, k ∉ ([67] : List Nat) → (updA c 67 (x46 : Int32).toNatClampNeg w2) k = c k := fr_cz hfc (by decide +kernel) (by decide +kernel)
              refine lv_iconst (v := 1) hx hb dX12_role_116 (by decide +kernel) ?_
              exact rw_iret (i, q, (updA c 67 (x46 : Int32).toNatClampNeg w2), d) hx hb hr hlocks hS (hK.sub (tys' := []) [] rfl) hP hD dX12_role_117 ⟨trivial, hI, fr_w hfi (by decide +kernel), fr_w hfc (by decide +kernel), (show RoW (c 67) ((updA c 67 (x46 : Int32).toNatClampNeg w2) 67) w n1 w2 (i 64) (i 5) (1 : Int32) (RBm (c 3) (c 6) (c 65) (c 66) w n1 w2) from Or.inr (Or.inr ⟨by unfold RA; omega, ⟨by omega, by omega, Or.inl (by omega)⟩, by decide, by show upd (c 67) (x46 : Int32).toNatClampNeg w2 = _; rw [cl_t (show (x46 : Int32).toInt = w.toInt * 12 + n1.toInt from by omega)]⟩))⟩
            · have f44 := mt (ti_eq (a := w2.toInt) (b := (-9)) rfl (by decide +kernel)).mpr c44
              refine lv_aload_n hx hb dX12_role_83 rfl (lv_at hl 0 rfl) ?_
              refine lv_iload_n hx hb dX12_role_84 rfl (lv_at hl 3 rfl) ?_
              refine lv_aload_n hx hb dX12_role_85 rfl (lv_at hl 0 rfl) ?_
              refine mget_65 hx hb hts (fun _ h => List.mem_cons_of_mem _ (List.mem_append_right _ h)) hown hK hP (hts (.fieldLink RX12 139 "TalePlayModel" "castSort" "[I") (List.mem_cons_of_mem _ (List.mem_append_left _ (List.mem_append_left _ (List.mem_of_getElem? (i := 7) rfl))))) dX12_role_86 ?_
              refine lv_iload_n hx hb dX12_role_89 rfl (lv_at hl 1 rfl) ?_
              refine mld_65 hx hb hK hP (vp_in_iff.mpr (by have h9 : w.toInt = w.toInt := rfl; omega)) dX12_role_90 (fun x47 ex47 => ?_)
              have rx47 : 0 ≤ x47.toInt ∧ x47.toInt ≤ 5 := by rw [ex47]; exact hI.2 65 _
              have gx47 : (c 65 (w : Int32).toNatClampNeg).toInt = x47.toInt := by rw [ex47]
              have gx9 : (c 65 w.toNatClampNeg).toInt = x47.toInt := gx47
              refine ro_calli (va_runV (As := [.int w2, .int x47]) (rest := []) ⟨hx, hb, hml, hown, hts⟩ (s_X12_isOf l D H.size o a t i q c d w2 x47 hI (show 0 ≤ w2.toInt ∧ w2.toInt ≤ 29 from by omega) (show 0 ≤ x47.toInt from by omega)) (cwV 2 hts gm_X12_role_X12_isOf rfl rfl rfl (by decide +kernel) ⟨Nat.le_of_ble_eq_true rfl, Nat.le_of_ble_eq_true rfl⟩) (pA_V hK hP (ci := 12) (q0 := 0) rfl rfl) rfl rfl hl.1 rfl (lv_room (Nat.le_of_ble_eq_true rfl)) dX12_role_91 ⟨Nat.le_of_ble_eq_true rfl, Nat.le_of_ble_eq_true rfl⟩) hS hA hP (fun r48 u48 H locs hw48 hP hS => ?_)
              have hw48 : ((0 ≤ r48.toInt ∧ r48.toInt ≤ 1) ∧ (Sm r48 (Kd (c 3) (c 6) w2.toInt x47.toInt))) := hw48
              obtain ⟨hw48, hr48_0⟩ := hw48
              have hr48_0 : Sm r48 (Kd (c 3) (c 6) w2.toInt x47.toInt) := hr48_0
              refine lv_if_ne (tgt := 104) hx hb dX12_role_94 (by decide +kernel) (fun c49 => ?_) (fun c49 => ?_)
              · have f49 := mt (ti_eq (a := r48.toInt) (b := 0) rfl (by decide +kernel)).mpr c49
                have s49 := sm_t hr48_0 c49
                refine lv_aload_n hx hb dX12_role_104 rfl (lv_at hl 0 rfl) ?_
                refine mget_67 hx hb hts (fun _ h => List.mem_cons_of_mem _ (List.mem_append_right _ h)) hown hK hP (hts (.fieldLink RX12 145 "TalePlayModel" "roles" "[I") (List.mem_cons_of_mem _ (List.mem_append_left _ (List.mem_append_left _ (List.mem_of_getElem? (i := 6) rfl))))) dX12_role_105 ?_
                refine lv_bipush (v := 12) hx hb dX12_role_108 (by decide +kernel) ?_
                refine lv_iload_n hx hb dX12_role_110 rfl (lv_at hl 1 rfl) ?_
                refine lv_imul hx hb dX12_role_111 ?_
                refine lv_topi (fun x50 ex50 => ?_)
                have tx50 := ti_mul (a := 12) (b := w.toInt) ex50 (by decide +kernel) rfl (by omega) (by omega)
                refine lv_iload_n hx hb dX12_role_112 rfl (lv_at hl 2 rfl) ?_
                refine lv_iadd hx hb dX12_role_113 ?_
                refine lv_topi (fun x51 ex51 => ?_)
                have tx51 := ti_add (a := (12 * w.toInt)) (b := n1.toInt) ex51 tx50 rfl (by omega) (by omega)
                refine lv_iload_n hx hb dX12_role_114 rfl (lv_at hl 3 rfl) ?_
                refine mst_67 hx hb hK hP hD hS (vp_in_iff.mpr (by have h9 : x51.toInt = ((12 * w.toInt) + n1.toInt) := tx51; omega)) dX12_role_115 (fun H locs hP hD hS => ?_)
                have hI := mInv_c hI (k := 67) (j := (x51 : Int32).toNatClampNeg) (x := w2) (show (w2 : Int32).toInt = -9 ∨ (0 ≤ (w2 : Int32).toInt ∧ (w2 : Int32).toInt ≤ 29) from by omega)
                have hfc : ∀ k, k ∉ ([67] : List Nat) → (updA c 67 (x51 : Int32).toNatClampNeg w2) k = c k := fr_cz hfc (by decide +kernel) (by decide +kernel)
                refine lv_iconst (v := 1) hx hb dX12_role_116 (by decide +kernel) ?_
                exact rw_iret (i, q, (updA c 67 (x51 : Int32).toNatClampNeg w2), d) hx hb hr hlocks hS (hK.sub (tys' := []) [] rfl) hP hD dX12_role_117 ⟨trivial, hI, fr_w hfi (by decide +kernel), fr_w hfc (by decide +kernel), (show RoW (c 67) ((updA c 67 (x51 : Int32).toNatClampNeg w2) 67) w n1 w2 (i 64) (i 5) (1 : Int32) (RBm (c 3) (c 6) (c 65) (c 66) w n1 w2) from Or.inr (Or.inr ⟨by unfold RA; omega, ⟨by omega, by omega, by exfalso; omega⟩, by decide, by show upd (c 67) (x51 : Int32).toNatClampNeg w2 = _; rw [cl_t (show (x51 : Int32).toInt = w.toInt * 12 + n1.toInt from by omega)]⟩))⟩
              · have f49 := (ti_eq (a := r48.toInt) (b := 0) rfl (by decide +kernel)).mp c49
                have s49 := sm_f hr48_0 c49
                refine lv_aload_n hx hb dX12_role_97 rfl (lv_at hl 0 rfl) ?_
                refine lv_bipush (v := 6) hx hb dX12_role_98 (by decide +kernel) ?_
                refine al_calli (va_runV (As := [.int 6]) (rest := []) ⟨hx, hb, hml, hown, hts⟩ (s_X12_meets l D H.size o a t i q c d 6 hI (show 1 ≤ 6 ∧ 6 ≤ 6 from by decide +kernel)) (cwV 1 hts gm_X12_role_X12_meets rfl rfl rfl (by decide +kernel) ⟨Nat.le_of_ble_eq_true rfl, Nat.le_of_ble_eq_true rfl⟩) (pB_V hK hP hD (ci := 12) (q0 := 0) rfl rfl) rfl rfl hl.1 rfl (lv_room (Nat.le_of_ble_eq_true rfl)) dX12_role_100 ⟨Nat.le_of_ble_eq_true rfl, Nat.le_of_ble_eq_true rfl⟩) hS hA hP hD (fun r52 u52 H locs hw52 hP hD hS => ?_)
                obtain ⟨i52, q52, c52, d52⟩ := u52
                have hw52 : r52 = (-3) ∧ mInv i52 c52 ∧ (∀ k, k ∉ ([0] : List Nat) → i52 k = i k) ∧ (∀ k, k ∉ ([1] : List Nat) → c52 k = c k) := hw52
                obtain ⟨hw52, hI, hei52, hec52⟩ := hw52
                have hfi : ∀ k, k ∉ ([0] : List Nat) → i52 k = i k := fr_z hfi hei52 (by decide +kernel) (by decide +kernel)
                have hfc : ∀ k, k ∉ ([1] : List Nat) → c52 k = c k := fr_z hfc hec52 (by decide +kernel) (by decide +kernel)
                have hP : va_P D vwCl (mW o a t i52 q52 c52 d52) H := hP
                have hD : va_D A (mW o a t i52 q52 c52 d52) := hD
                have hw52 : r52 = (-3) := hw52
                subst hw52
                exact rw_iret (i52, q52, c52, d52) hx hb hr hlocks hS (hK.sub (tys' := []) [] rfl) hP hD dX12_role_103 ⟨trivial, hI, fr_w hfi (by decide +kernel), fr_w hfc (by decide +kernel), (show RoW (c 67) (c52 67) w n1 w2 (i 64) (i 5) ((-3) : Int32) (RBm (c 3) (c 6) (c 65) (c 66) w n1 w2) from Or.inr (Or.inl ⟨by unfold RA; omega, fun h9 => by rcases h9.2.2 with h8 | h8; (· omega); (· have h7 := h8.2; rw [gx9] at h7; exact s49 h7), by decide, hfc 67 (by decide +kernel)⟩))⟩
          · have f43 := fl_f hw42 c43
            refine lv_aload_n hx hb dX12_role_71 rfl (lv_at hl 0 rfl) ?_
            refine lv_iconst (v := 2) hx hb dX12_role_72 (by decide +kernel) ?_
            refine al_calli (va_runV (As := [.int 2]) (rest := []) ⟨hx, hb, hml, hown, hts⟩ (s_X12_meets l D H.size o a t i q c d 2 hI (show 1 ≤ 2 ∧ 2 ≤ 6 from by decide +kernel)) (cwV 1 hts gm_X12_role_X12_meets rfl rfl rfl (by decide +kernel) ⟨Nat.le_of_ble_eq_true rfl, Nat.le_of_ble_eq_true rfl⟩) (pB_V hK hP hD (ci := 12) (q0 := 0) rfl rfl) rfl rfl hl.1 rfl (lv_room (Nat.le_of_ble_eq_true rfl)) dX12_role_73 ⟨Nat.le_of_ble_eq_true rfl, Nat.le_of_ble_eq_true rfl⟩) hS hA hP hD (fun r53 u53 H locs hw53 hP hD hS => ?_)
            obtain ⟨i53, q53, c53, d53⟩ := u53
            have hw53 : r53 = (-3) ∧ mInv i53 c53 ∧ (∀ k, k ∉ ([0] : List Nat) → i53 k = i k) ∧ (∀ k, k ∉ ([1] : List Nat) → c53 k = c k) := hw53
            obtain ⟨hw53, hI, hei53, hec53⟩ := hw53
            have hfi : ∀ k, k ∉ ([0] : List Nat) → i53 k = i k := fr_z hfi hei53 (by decide +kernel) (by decide +kernel)
            have hfc : ∀ k, k ∉ ([1] : List Nat) → c53 k = c k := fr_z hfc hec53 (by decide +kernel) (by decide +kernel)
            have hP : va_P D vwCl (mW o a t i53 q53 c53 d53) H := hP
            have hD : va_D A (mW o a t i53 q53 c53 d53) := hD
            have hw53 : r53 = (-3) := hw53
            subst hw53
            exact rw_iret (i53, q53, c53, d53) hx hb hr hlocks hS (hK.sub (tys' := []) [] rfl) hP hD dX12_role_76 ⟨trivial, hI, fr_w hfi (by decide +kernel), fr_w hfc (by decide +kernel), (show RoW (c 67) (c53 67) w n1 w2 (i 64) (i 5) ((-3) : Int32) (RBm (c 3) (c 6) (c 65) (c 66) w n1 w2) from Or.inr (Or.inl ⟨by unfold RA; omega, fun h9 => by have h8 := h9.1; have h7 := h9.2.1; omega, by decide, hfc 67 (by decide +kernel)⟩))⟩
        · have f39 := mt (ti_eq (a := w2.toInt) (b := (-9)) rfl (by decide +kernel)).mpr c39
          refine lv_aload_n hx hb dX12_role_38 rfl (lv_at hl 0 rfl) ?_
          refine lv_iload_n hx hb dX12_role_39 rfl (lv_at hl 3 rfl) ?_
          refine lv_iconst (v := 0) hx hb dX12_role_40 (by decide +kernel) ?_
          refine ro_calli (va_runV (As := [.int w2, .int 0]) (rest := []) ⟨hx, hb, hml, hown, hts⟩ (s_X12_isOf l D H.size o a t i q c d w2 0 hI (show 0 ≤ w2.toInt ∧ w2.toInt ≤ 29 from by have h91 : (0 : Int32).toInt = 0 := (by decide +kernel); omega) (show 0 ≤ 0 from by decide +kernel)) (cwV 2 hts gm_X12_role_X12_isOf rfl rfl rfl (by decide +kernel) ⟨Nat.le_of_ble_eq_true rfl, Nat.le_of_ble_eq_true rfl⟩) (pA_V hK hP (ci := 12) (q0 := 0) rfl rfl) rfl rfl hl.1 rfl (lv_room (Nat.le_of_ble_eq_true rfl)) dX12_role_41 ⟨Nat.le_of_ble_eq_true rfl, Nat.le_of_ble_eq_true rfl⟩) hS hA hP (fun r54 u54 H locs hw54 hP hS => ?_)
          have hw54 : ((0 ≤ r54.toInt ∧ r54.toInt ≤ 1) ∧ (Sm r54 (Kd (c 3) (c 6) w2.toInt 0))) := hw54
          obtain ⟨hw54, hr54_0⟩ := hw54
          have hr54_0 : Sm r54 (Kd (c 3) (c 6) w2.toInt 0) := hr54_0
          refine lv_if_eq (tgt := 53) hx hb dX12_role_44 (by decide +kernel) (fun c55 => ?_) (fun c55 => ?_)
          · have f55 := (ti_eq (a := r54.toInt) (b := 0) rfl (by decide +kernel)).mp c55
            have s55 := sm_f hr54_0 c55
            refine lv_iload_n hx hb dX12_role_53 rfl (lv_at hl 2 rfl) ?_
            refine lv_i2l (v := n1.toInt64) hx hb dX12_role_54 rfl ?_
            refine lv_lconst (v := 0) hx hb dX12_role_55 (by decide +kernel) ?_
            refine lv_aload_n hx hb dX12_role_56 rfl (lv_at hl 0 rfl) ?_
            refine mget_66 hx hb hts (fun _ h => List.mem_cons_of_mem _ (List.mem_append_right _ h)) hown hK hP (hts (.fieldLink RX12 142 "TalePlayModel" "castMany" "[I") (List.mem_cons_of_mem _ (List.mem_append_left _ (List.mem_append_left _ (List.mem_of_getElem? (i := 5) rfl))))) dX12_role_57 ?_
            refine lv_iload_n hx hb dX12_role_60 rfl (lv_at hl 1 rfl) ?_
            refine mld_66 hx hb hK hP (vp_in_iff.mpr (by have h9 : w.toInt = w.toInt := rfl; omega)) dX12_role_61 (fun x56 ex56 => ?_)
            have rx56 : 0 ≤ x56.toInt ∧ x56.toInt ≤ 12 := by rw [ex56]; exact hI.2 66 _
            have gx56 : (c 66 (w : Int32).toNatClampNeg).toInt = x56.toInt := by rw [ex56]
            refine lv_iconst (v := 1) hx hb dX12_role_62 (by decide +kernel) ?_
            refine lv_isub hx hb dX12_role_63 ?_
            refine lv_topi (fun x57 ex57 => ?_)
            have tx57 := ti_sub (a := x56.toInt) (b := 1) ex57 rfl (by decide +kernel) (by omega) (by omega)
            refine lv_i2l (v := x57.toInt64) hx hb dX12_role_64 rfl ?_
            have hPc := hP.sub (ws' := []) [] rfl
            have hKc := hK.sub (tys' := []) [] rfl
            refine ro_calli (va_runS (As := [.long n1.toInt64, .long 0, .long x57.toInt64]) (rest := []) ⟨hx, hb, hml, hown, hts⟩ (c_X12_in l D H.size n1.toInt64 0 x57.toInt64 n1.toInt 0 (x56.toInt - 1) ((Int32.toInt_toInt64 n1).trans rfl) (by decide +kernel) ((Int32.toInt_toInt64 x57).trans tx57)) (va_cwS 3 hts gm_X12_role_X12_in rfl rfl rfl (by decide +kernel) ⟨Nat.le_of_ble_eq_true rfl, Nat.le_of_ble_eq_true rfl⟩) (pA_S hKc hPc) rfl rfl hl.1 rfl (lv_room (Nat.le_of_ble_eq_true rfl)) dX12_role_65 ⟨Nat.le_of_ble_eq_true rfl, Nat.le_of_ble_eq_true rfl⟩) hS hA hP (fun r58 u58 H locs hw58 hP hS => ?_)
            have hw58 : r58 = if (0 ≤ n1.toInt ∧ n1.toInt ≤ (x56.toInt - 1)) then 1 else 0 := hw58
            refine lv_if_ne (tgt := 77) hx hb dX12_role_68 (by decide +kernel) (fun c59 => ?_) (fun c59 => ?_)
            · have f59 := fl_t hw58 c59
              refine lv_iload_n hx hb dX12_role_77 rfl (lv_at hl 3 rfl) ?_
              refine lv_bipush (v := (-9)) hx hb dX12_role_78 (by decide +kernel) ?_
              refine lv_icmp_eq (tgt := 104) hx hb dX12_role_80 (by decide +kernel) (fun c60 => ?_) (fun c60 => ?_)
              · have f60 := (ti_eq (a := w2.toInt) (b := (-9)) rfl (by decide +kernel)).mp c60
                refine lv_aload_n hx hb dX12_role_104 rfl (lv_at hl 0 rfl) ?_
                refine mget_67 hx hb hts (fun _ h => List.mem_cons_of_mem _ (List.mem_append_right _ h)) hown hK hP (hts (.fieldLink RX12 145 "TalePlayModel" "roles" "[I") (List.mem_cons_of_mem _ (List.mem_append_left _ (List.mem_append_left _ (List.mem_of_getElem? (i := 6) rfl))))) dX12_role_105 ?_
                refine lv_bipush (v := 12) hx hb dX12_role_108 (by decide +kernel) ?_
                refine lv_iload_n hx hb dX12_role_110 rfl (lv_at hl 1 rfl) ?_
                refine lv_imul hx hb dX12_role_111 ?_
                refine lv_topi (fun x61 ex61 => ?_)
                have tx61 := ti_mul (a := 12) (b := w.toInt) ex61 (by decide +kernel) rfl (by omega) (by omega)
                refine lv_iload_n hx hb dX12_role_112 rfl (lv_at hl 2 rfl) ?_
                refine lv_iadd hx hb dX12_role_113 ?_
                refine lv_topi (fun x62 ex62 => ?_)
                have tx62 := ti_add (a := (12 * w.toInt)) (b := n1.toInt) ex62 tx61 rfl (by omega) (by omega)
                refine lv_iload_n hx hb dX12_role_114 rfl (lv_at hl 3 rfl) ?_
                refine mst_67 hx hb hK hP hD hS (vp_in_iff.mpr (by have h9 : x62.toInt = ((12 * w.toInt) + n1.toInt) := tx62; omega)) dX12_role_115 (fun H locs hP hD hS => ?_)
                have hI := mInv_c hI (k := 67) (j := (x62 : Int32).toNatClampNeg) (x := w2) (show (w2 : Int32).toInt = -9 ∨ (0 ≤ (w2 : Int32).toInt ∧ (w2 : Int32).toInt ≤ 29) from by omega)
                have hfc : ∀ k, k ∉ ([67] : List Nat) → (updA c 67 (x62 : Int32).toNatClampNeg w2) k = c k := fr_cz hfc (by decide +kernel) (by decide +kernel)
                refine lv_iconst (v := 1) hx hb dX12_role_116 (by decide +kernel) ?_
                exact rw_iret (i, q, (updA c 67 (x62 : Int32).toNatClampNeg w2), d) hx hb hr hlocks hS (hK.sub (tys' := []) [] rfl) hP hD dX12_role_117 ⟨trivial, hI, fr_w hfi (by decide +kernel), fr_w hfc (by decide +kernel), (show RoW (c 67) ((updA c 67 (x62 : Int32).toNatClampNeg w2) 67) w n1 w2 (i 64) (i 5) (1 : Int32) (RBm (c 3) (c 6) (c 65) (c 66) w n1 w2) from Or.inr (Or.inr ⟨by unfold RA; omega, ⟨by omega, by omega, by exfalso; omega⟩, by decide, by show upd (c 67) (x62 : Int32).toNatClampNeg w2 = _; rw [cl_t (show (x62 : Int32).toInt = w.toInt * 12 + n1.toInt from by omega)]⟩))⟩
              · have f60 := mt (ti_eq (a := w2.toInt) (b := (-9)) rfl (by decide +kernel)).mpr c60
                refine lv_aload_n hx hb dX12_role_83 rfl (lv_at hl 0 rfl) ?_
                refine lv_iload_n hx hb dX12_role_84 rfl (lv_at hl 3 rfl) ?_
                refine lv_aload_n hx hb dX12_role_85 rfl (lv_at hl 0 rfl) ?_
                refine mget_65 hx hb hts (fun _ h => List.mem_cons_of_mem _ (List.mem_append_right _ h)) hown hK hP (hts (.fieldLink RX12 139 "TalePlayModel" "castSort" "[I") (List.mem_cons_of_mem _ (List.mem_append_left _ (List.mem_append_left _ (List.mem_of_getElem? (i := 7) rfl))))) dX12_role_86 ?_
                refine lv_iload_n hx hb dX12_role_89 rfl (lv_at hl 1 rfl) ?_
                refine mld_65 hx hb hK hP (vp_in_iff.mpr (by have h9 : w.toInt = w.toInt := rfl; omega)) dX12_role_90 (fun x63 ex63 => ?_)
                have rx63 : 0 ≤ x63.toInt ∧ x63.toInt ≤ 5 := by rw [ex63]; exact hI.2 65 _
                have gx63 : (c 65 (w : Int32).toNatClampNeg).toInt = x63.toInt := by rw [ex63]
                have gx9 : (c 65 w.toNatClampNeg).toInt = x63.toInt := gx63
                refine ro_calli (va_runV (As := [.int w2, .int x63]) (rest := []) ⟨hx, hb, hml, hown, hts⟩ (s_X12_isOf l D H.size o a t i q c d w2 x63 hI (show 0 ≤ w2.toInt ∧ w2.toInt ≤ 29 from by omega) (show 0 ≤ x63.toInt from by omega)) (cwV 2 hts gm_X12_role_X12_isOf rfl rfl rfl (by decide +kernel) ⟨Nat.le_of_ble_eq_true rfl, Nat.le_of_ble_eq_true rfl⟩) (pA_V hK hP (ci := 12) (q0 := 0) rfl rfl) rfl rfl hl.1 rfl (lv_room (Nat.le_of_ble_eq_true rfl)) dX12_role_91 ⟨Nat.le_of_ble_eq_true rfl, Nat.le_of_ble_eq_true rfl⟩) hS hA hP (fun r64 u64 H locs hw64 hP hS => ?_)
                have hw64 : ((0 ≤ r64.toInt ∧ r64.toInt ≤ 1) ∧ (Sm r64 (Kd (c 3) (c 6) w2.toInt x63.toInt))) := hw64
                obtain ⟨hw64, hr64_0⟩ := hw64
                have hr64_0 : Sm r64 (Kd (c 3) (c 6) w2.toInt x63.toInt) := hr64_0
                refine lv_if_ne (tgt := 104) hx hb dX12_role_94 (by decide +kernel) (fun c65 => ?_) (fun c65 => ?_)
                · have f65 := mt (ti_eq (a := r64.toInt) (b := 0) rfl (by decide +kernel)).mpr c65
                  have s65 := sm_t hr64_0 c65
                  refine lv_aload_n hx hb dX12_role_104 rfl (lv_at hl 0 rfl) ?_
                  refine mget_67 hx hb hts (fun _ h => List.mem_cons_of_mem _ (List.mem_append_right _ h)) hown hK hP (hts (.fieldLink RX12 145 "TalePlayModel" "roles" "[I") (List.mem_cons_of_mem _ (List.mem_append_left _ (List.mem_append_left _ (List.mem_of_getElem? (i := 6) rfl))))) dX12_role_105 ?_
                  refine lv_bipush (v := 12) hx hb dX12_role_108 (by decide +kernel) ?_
                  refine lv_iload_n hx hb dX12_role_110 rfl (lv_at hl 1 rfl) ?_
                  refine lv_imul hx hb dX12_role_111 ?_
                  refine lv_topi (fun x66 ex66 => ?_)
                  have tx66 := ti_mul (a := 12) (b := w.toInt) ex66 (by decide +kernel) rfl (by omega) (by omega)
                  refine lv_iload_n hx hb dX12_role_112 rfl (lv_at hl 2 rfl) ?_
                  refine lv_iadd hx hb dX12_role_113 ?_
                  refine lv_topi (fun x67 ex67 => ?_)
                  have tx67 := ti_add (a := (12 * w.toInt)) (b := n1.toInt) ex67 tx66 rfl (by omega) (by omega)
                  refine lv_iload_n hx hb dX12_role_114 rfl (lv_at hl 3 rfl) ?_
                  refine mst_67 hx hb hK hP hD hS (vp_in_iff.mpr (by have h9 : x67.toInt = ((12 * w.toInt) + n1.toInt) := tx67; omega)) dX12_role_115 (fun H locs hP hD hS => ?_)
                  have hI := mInv_c hI (k := 67) (j := (x67 : Int32).toNatClampNeg) (x := w2) (show (w2 : Int32).toInt = -9 ∨ (0 ≤ (w2 : Int32).toInt ∧ (w2 : Int32).toInt ≤ 29) from by omega)
                  have hfc : ∀ k, k ∉ ([67] : List Nat) → (updA c 67 (x67 : Int32).toNatClampNeg w2) k = c k := fr_cz hfc (by decide +kernel) (by decide +kernel)
                  refine lv_iconst (v := 1) hx hb dX12_role_116 (by decide +kernel) ?_
                  exact rw_iret (i, q, (updA c 67 (x67 : Int32).toNatClampNeg w2), d) hx hb hr hlocks hS (hK.sub (tys' := []) [] rfl) hP hD dX12_role_117 ⟨trivial, hI, fr_w hfi (by decide +kernel), fr_w hfc (by decide +kernel), (show RoW (c 67) ((updA c 67 (x67 : Int32).toNatClampNeg w2) 67) w n1 w2 (i 64) (i 5) (1 : Int32) (RBm (c 3) (c 6) (c 65) (c 66) w n1 w2) from Or.inr (Or.inr ⟨by unfold RA; omega, ⟨by omega, by omega, Or.inr ⟨s55, by have h9 := s65; rw [← gx9] at h9; exact h9⟩⟩, by decide, by show upd (c 67) (x67 : Int32).toNatClampNeg w2 = _; rw [cl_t (show (x67 : Int32).toInt = w.toInt * 12 + n1.toInt from by omega)]⟩))⟩
                · have f65 := (ti_eq (a := r64.toInt) (b := 0) rfl (by decide +kernel)).mp c65
                  have s65 := sm_f hr64_0 c65
                  refine lv_aload_n hx hb dX12_role_97 rfl (lv_at hl 0 rfl) ?_
                  refine lv_bipush (v := 6) hx hb dX12_role_98 (by decide +kernel) ?_
                  refine al_calli (va_runV (As := [.int 6]) (rest := []) ⟨hx, hb, hml, hown, hts⟩ (s_X12_meets l D H.size o a t i q c d 6 hI (show 1 ≤ 6 ∧ 6 ≤ 6 from by decide +kernel)) (cwV 1 hts gm_X12_role_X12_meets rfl rfl rfl (by decide +kernel) ⟨Nat.le_of_ble_eq_true rfl, Nat.le_of_ble_eq_true rfl⟩) (pB_V hK hP hD (ci := 12) (q0 := 0) rfl rfl) rfl rfl hl.1 rfl (lv_room (Nat.le_of_ble_eq_true rfl)) dX12_role_100 ⟨Nat.le_of_ble_eq_true rfl, Nat.le_of_ble_eq_true rfl⟩) hS hA hP hD (fun r68 u68 H locs hw68 hP hD hS => ?_)
                  obtain ⟨i68, q68, c68, d68⟩ := u68
                  have hw68 : r68 = (-3) ∧ mInv i68 c68 ∧ (∀ k, k ∉ ([0] : List Nat) → i68 k = i k) ∧ (∀ k, k ∉ ([1] : List Nat) → c68 k = c k) := hw68
                  obtain ⟨hw68, hI, hei68, hec68⟩ := hw68
                  have hfi : ∀ k, k ∉ ([0] : List Nat) → i68 k = i k := fr_z hfi hei68 (by decide +kernel) (by decide +kernel)
                  have hfc : ∀ k, k ∉ ([1] : List Nat) → c68 k = c k := fr_z hfc hec68 (by decide +kernel) (by decide +kernel)
                  have hP : va_P D vwCl (mW o a t i68 q68 c68 d68) H := hP
                  have hD : va_D A (mW o a t i68 q68 c68 d68) := hD
                  have hw68 : r68 = (-3) := hw68
                  subst hw68
                  exact rw_iret (i68, q68, c68, d68) hx hb hr hlocks hS (hK.sub (tys' := []) [] rfl) hP hD dX12_role_103 ⟨trivial, hI, fr_w hfi (by decide +kernel), fr_w hfc (by decide +kernel), (show RoW (c 67) (c68 67) w n1 w2 (i 64) (i 5) ((-3) : Int32) (RBm (c 3) (c 6) (c 65) (c 66) w n1 w2) from Or.inr (Or.inl ⟨by unfold RA; omega, fun h9 => by rcases h9.2.2 with h8 | h8; (· omega); (· have h7 := h8.2; rw [gx9] at h7; exact s65 h7), by decide, hfc 67 (by decide +kernel)⟩))⟩
            · have f59 := fl_f hw58 c59
              refine lv_aload_n hx hb dX12_role_71 rfl (lv_at hl 0 rfl) ?_
              refine lv_iconst (v := 2) hx hb dX12_role_72 (by decide +kernel) ?_
              refine al_calli (va_runV (As := [.int 2]) (rest := []) ⟨hx, hb, hml, hown, hts⟩ (s_X12_meets l D H.size o a t i q c d 2 hI (show 1 ≤ 2 ∧ 2 ≤ 6 from by decide +kernel)) (cwV 1 hts gm_X12_role_X12_meets rfl rfl rfl (by decide +kernel) ⟨Nat.le_of_ble_eq_true rfl, Nat.le_of_ble_eq_true rfl⟩) (pB_V hK hP hD (ci := 12) (q0 := 0) rfl rfl) rfl rfl hl.1 rfl (lv_room (Nat.le_of_ble_eq_true rfl)) dX12_role_73 ⟨Nat.le_of_ble_eq_true rfl, Nat.le_of_ble_eq_true rfl⟩) hS hA hP hD (fun r69 u69 H locs hw69 hP hD hS => ?_)
              obtain ⟨i69, q69, c69, d69⟩ := u69
              have hw69 : r69 = (-3) ∧ mInv i69 c69 ∧ (∀ k, k ∉ ([0] : List Nat) → i69 k = i k) ∧ (∀ k, k ∉ ([1] : List Nat) → c69 k = c k) := hw69
              obtain ⟨hw69, hI, hei69, hec69⟩ := hw69
              have hfi : ∀ k, k ∉ ([0] : List Nat) → i69 k = i k := fr_z hfi hei69 (by decide +kernel) (by decide +kernel)
              have hfc : ∀ k, k ∉ ([1] : List Nat) → c69 k = c k := fr_z hfc hec69 (by decide +kernel) (by decide +kernel)
              have hP : va_P D vwCl (mW o a t i69 q69 c69 d69) H := hP
              have hD : va_D A (mW o a t i69 q69 c69 d69) := hD
              have hw69 : r69 = (-3) := hw69
              subst hw69
              exact rw_iret (i69, q69, c69, d69) hx hb hr hlocks hS (hK.sub (tys' := []) [] rfl) hP hD dX12_role_76 ⟨trivial, hI, fr_w hfi (by decide +kernel), fr_w hfc (by decide +kernel), (show RoW (c 67) (c69 67) w n1 w2 (i 64) (i 5) ((-3) : Int32) (RBm (c 3) (c 6) (c 65) (c 66) w n1 w2) from Or.inr (Or.inl ⟨by unfold RA; omega, fun h9 => by have h8 := h9.1; have h7 := h9.2.1; omega, by decide, hfc 67 (by decide +kernel)⟩))⟩
          · have f55 := mt (ti_eq (a := r54.toInt) (b := 0) rfl (by decide +kernel)).mpr c55
            have s55 := sm_t hr54_0 c55
            refine lv_aload_n hx hb dX12_role_47 rfl (lv_at hl 0 rfl) ?_
            refine lv_iconst (v := 3) hx hb dX12_role_48 (by decide +kernel) ?_
            refine al_calli (va_runV (As := [.int 3]) (rest := []) ⟨hx, hb, hml, hown, hts⟩ (s_X12_meets l D H.size o a t i q c d 3 hI (show 1 ≤ 3 ∧ 3 ≤ 6 from by decide +kernel)) (cwV 1 hts gm_X12_role_X12_meets rfl rfl rfl (by decide +kernel) ⟨Nat.le_of_ble_eq_true rfl, Nat.le_of_ble_eq_true rfl⟩) (pB_V hK hP hD (ci := 12) (q0 := 0) rfl rfl) rfl rfl hl.1 rfl (lv_room (Nat.le_of_ble_eq_true rfl)) dX12_role_49 ⟨Nat.le_of_ble_eq_true rfl, Nat.le_of_ble_eq_true rfl⟩) hS hA hP hD (fun r70 u70 H locs hw70 hP hD hS => ?_)
            obtain ⟨i70, q70, c70, d70⟩ := u70
            have hw70 : r70 = (-3) ∧ mInv i70 c70 ∧ (∀ k, k ∉ ([0] : List Nat) → i70 k = i k) ∧ (∀ k, k ∉ ([1] : List Nat) → c70 k = c k) := hw70
            obtain ⟨hw70, hI, hei70, hec70⟩ := hw70
            have hfi : ∀ k, k ∉ ([0] : List Nat) → i70 k = i k := fr_z hfi hei70 (by decide +kernel) (by decide +kernel)
            have hfc : ∀ k, k ∉ ([1] : List Nat) → c70 k = c k := fr_z hfc hec70 (by decide +kernel) (by decide +kernel)
            have hP : va_P D vwCl (mW o a t i70 q70 c70 d70) H := hP
            have hD : va_D A (mW o a t i70 q70 c70 d70) := hD
            have hw70 : r70 = (-3) := hw70
            subst hw70
            exact rw_iret (i70, q70, c70, d70) hx hb hr hlocks hS (hK.sub (tys' := []) [] rfl) hP hD dX12_role_52 ⟨trivial, hI, fr_w hfi (by decide +kernel), fr_w hfc (by decide +kernel), (show RoW (c 67) (c70 67) w n1 w2 (i 64) (i 5) ((-3) : Int32) (RBm (c 3) (c 6) (c 65) (c 66) w n1 w2) from Or.inr (Or.inl ⟨by unfold RA; omega, fun h9 => by rcases h9.2.2 with h8 | h8; (· omega); (· exact h8.1 s55), by decide, hfc 67 (by decide +kernel)⟩))⟩
      · have f38 := fl_f hw37 c38
        refine lv_iconst (v := (-1)) hx hb dX12_role_30 (by decide +kernel) ?_
        exact rw_iret (i, q, c, d) hx hb hr hlocks hS (hK.sub (tys' := []) [] rfl) hP hD dX12_role_31 ⟨trivial, hI, fr_w hfi (by decide +kernel), fr_w hfc (by decide +kernel), (show RoW (c 67) (c 67) w n1 w2 (i 64) (i 5) ((-1) : Int32) (RBm (c 3) (c 6) (c 65) (c 66) w n1 w2) from Or.inl ⟨by unfold RA; omega, by decide, rfl⟩)⟩

def wm_X11_who_e : List Cond := .code yX11_who cX11_who 4 (some .int) :: (([.fieldLink RX11 60 "TalePlay" "casts" "LTalePlay$Casts;", .fieldLink RX11 334 "TalePlay$Casts" "made" "I", .methodLink RX11 91 yX11_isBelow, .static yX11_isBelow, .initialized RX11, .code yX11_isBelow cX11_isBelow 2 (some .boolean), .fieldLink RX11 340 "TalePlay$Casts" "lengths" "[I", .fieldLink RX11 347 "TalePlay$Casts" "roles" "[I", .methodLink RX11 128 yX11_answerFinding, .instanceMethod yX11_answerFinding, .selects RX11 yX11_answerFinding yX11_answerFinding, .code yX11_answerFinding cX11_answerFinding 2 (some .int), .fieldLink RX11 72 "TalePlay" "latestFinding" "I", .fieldLink RX11 68 "TalePlay" "findingCounts" "[I"] : List Cond) ++ wsX110 ++ wsX30)
set_option maxRecDepth 20000 in
theorem gm_X11_who_e_X11_isBelow_91 : GoodIn wm_X11_who_e (va_wsS RX11 91 yX11_isBelow wm_X11_isBelow) := goodIn_w (List.forall_mem_append.mpr ⟨List.forall_mem_cons.mpr ⟨List.mem_cons_of_mem _ (List.mem_append_left _ (List.mem_append_left _ (List.mem_of_getElem? (i := 2) rfl))), List.forall_mem_cons.mpr ⟨List.mem_cons_of_mem _ (List.mem_append_left _ (List.mem_append_left _ (List.mem_of_getElem? (i := 3) rfl))), List.forall_mem_cons.mpr ⟨List.mem_cons_of_mem _ (List.mem_append_left _ (List.mem_append_left _ (List.mem_of_getElem? (i := 4) rfl))), (fun _ h => absurd h List.not_mem_nil)⟩⟩⟩, List.forall_mem_cons.mpr ⟨List.mem_cons_of_mem _ (List.mem_append_left _ (List.mem_append_left _ (List.mem_of_getElem? (i := 5) rfl))), (fun _ h => absurd h List.not_mem_nil)⟩⟩) (by decide +kernel)
set_option maxRecDepth 20000 in
theorem gm_X11_who_e_X11_answerFinding_128 : GoodIn wm_X11_who_e (wsV RX11 128 RX11 yX11_answerFinding wm_X11_answerFinding) := goodIn_w (List.forall_mem_append.mpr ⟨List.forall_mem_cons.mpr ⟨List.mem_cons_of_mem _ (List.mem_append_left _ (List.mem_append_left _ (List.mem_of_getElem? (i := 8) rfl))), List.forall_mem_cons.mpr ⟨List.mem_cons_of_mem _ (List.mem_append_left _ (List.mem_append_left _ (List.mem_of_getElem? (i := 9) rfl))), List.forall_mem_cons.mpr ⟨List.mem_cons_of_mem _ (List.mem_append_left _ (List.mem_append_left _ (List.mem_of_getElem? (i := 10) rfl))), List.forall_mem_cons.mpr ⟨List.mem_cons_of_mem _ (List.mem_append_left _ (List.mem_append_left _ (List.mem_of_getElem? (i := 4) rfl))), (fun _ h => absurd h List.not_mem_nil)⟩⟩⟩⟩, List.forall_mem_cons.mpr ⟨List.mem_cons_of_mem _ (List.mem_append_left _ (List.mem_append_left _ (List.mem_of_getElem? (i := 11) rfl))), List.forall_mem_append.mpr ⟨List.forall_mem_cons.mpr ⟨List.mem_cons_of_mem _ (List.mem_append_left _ (List.mem_append_left _ (List.mem_of_getElem? (i := 12) rfl))), List.forall_mem_cons.mpr ⟨List.mem_cons_of_mem _ (List.mem_append_left _ (List.mem_append_left _ (List.mem_of_getElem? (i := 13) rfl))), (fun _ h => absurd h List.not_mem_nil)⟩⟩, (fun _ h => List.mem_cons_of_mem _ (List.mem_append_left _ (List.mem_append_right _ h)))⟩⟩⟩) (by decide +kernel)
set_option maxHeartbeats 4000000 in
set_option maxRecDepth 100000 in
theorem x_X11_who_e (l : Launch) (D : va_G) (sz : Nat) (sk : Value) (a : Nat → Nat) (t : Nat → ClassId) (i : Nat → Int32) (q : Int64) (c : Nat → Nat → Int32) (d : Nat → Nat → Int64) (w : Int32) (n1 : Int32) (hI : xInv i c) : Met l yX11_who wm_X11_who_e ({ frames := 1, cells := 0, slots := 0, locals := 21 }) (va_Pc [.ref (a 100), .int w, .int n1] (yB (a 186) D sz (xwT sk a t i q c d) (xtT t))) (va_Qi (fun (r : Int32) (u : MS) => True ∧ xInv u.1 u.2.2.1 ∧ (∀ k, k ∉ ([102] : List Nat) → u.1 k = i k) ∧ (∀ k, k ∉ ([101] : List Nat) → u.2.2.1 k = c k) ∧ (WhR (c 164) (c 163) w n1 (i 165) r)) (oC D (va_A (xwT sk a t i q c d) sz) (fun u : MS => xwT sk a t u.1 u.2.1 u.2.2.1 u.2.2.2) (fun _ => [])) (va_A (xwT sk a t i q c d) sz)) 0 0 (va_A (xwT sk a t i q c d) sz) := by
  refine Met.ofW (cc := cX11_who) (maxL := 4) (ret := (some .int)) (by decide +kernel) rfl ?_
  intro p e s m args below meth cd s₁ B hml hv
  obtain ⟨rfl, ⟨hsz, hP, hK, hD0⟩, hN, hZ, hBW⟩ := hv
  have hx := B.exec
  have hb := B.bytes
  have hr := B.returns
  have hts := atoms_spec (ws := wm_X11_who_e) B.pre
  have hown : s.vm.findClass RX11 = some m.cls := findClass_of_methodNamed B.named
  have hlocks := B.notSynchronized
  subst hsz
  have hD := hD0.self (sz := s.heap.size)
  have hZ := xZ_A hZ hP hBW
  generalize hAe : va_A (xwT sk a t i q c d) s.heap.size = A at hD hZ ⊢
  have hA : ∀ q : Nat, s.heap.size ≤ q → A q := fun q h => by rw [← hAe]; exact Or.inr h
  have hS : va_S A s.heap s.heap [] := va_S.rf
  have hfi : ∀ k, k ∉ ([] : List Nat) → i k = i k := fun _ _ => rfl
  have hfc : ∀ k, k ∉ ([] : List Nat) → c k = c k := fun _ _ => rfl
  have hl := lv_entry ([.ref (a 100), .int w, .int n1]) (n := 4) (Nat.le_of_ble_eq_true rfl)
  rw [lg_entry_eq]
  generalize (lg_sl ([.ref (a 100), .int w, .int n1]) ++ List.replicate (4 - (lg_sl ([.ref (a 100), .int w, .int n1])).length) Slot.unset).toArray = ls at hl ⊢
  have hl : lv_has ls 4 [(0, .ref (a 100)), (1, .int w), (2, .int n1)] := hl
  have rb165_i : 0 ≤ (i 165).toInt ∧ (i 165).toInt ≤ 10 := hI.1 165
  refine lv_iload_n hx hb dX11_who_0 rfl (lv_at hl 1 rfl) ?_
  refine lv_aload_n hx hb dX11_who_1 rfl (lv_at hl 0 rfl) ?_
  refine xgT_X_casts hx hb hts (fun _ h => List.mem_cons_of_mem _ (List.mem_append_left _ (List.mem_append_right _ h))) hown hK hP (hts (.fieldLink RX11 60 "TalePlay" "casts" "LTalePlay$Casts;") (List.mem_cons_of_mem _ (List.mem_append_left _ (List.mem_append_left _ (List.mem_of_getElem? (i := 0) rfl))))) dX11_who_2 ?_
  refine xgT_C_made (v := (i 165)) rfl hx hb hts (fun _ h => List.mem_cons_of_mem _ (List.mem_append_right _ h)) hown hK hP (hts (.fieldLink RX11 334 "TalePlay$Casts" "made" "I") (List.mem_cons_of_mem _ (List.mem_append_left _ (List.mem_append_left _ (List.mem_of_getElem? (i := 1) rfl))))) dX11_who_5 ?_
  have hPc := hP.sub (ws' := []) [] rfl
  have hKc := hK.sub (tys' := []) [] rfl
  refine ro_calli (va_runS (As := [.int w, .int (i 165)]) (rest := []) ⟨hx, hb, hml, hown, hts⟩ (c_X11_isBelow l D s.heap.size w (i 165) w.toInt ((i 165).toInt) rfl rfl) (va_cwS 2 hts gm_X11_who_e_X11_isBelow_91 rfl rfl rfl (by decide +kernel) ⟨Nat.le_of_ble_eq_true rfl, Nat.le_of_ble_eq_true rfl⟩) (pA_S hKc hPc) rfl rfl hl.1 rfl (lv_room (Nat.le_of_ble_eq_true rfl)) dX11_who_8 ⟨Nat.le_of_ble_eq_true rfl, Nat.le_of_ble_eq_true rfl⟩) hS hA hP (fun r2 u2 H locs hw2 hP hS => ?_)
  have hw2 : r2 = if (0 ≤ w.toInt ∧ w.toInt < ((i 165).toInt)) then 1 else 0 := hw2
  refine lv_if_ne (tgt := 16) hx hb dX11_who_11 (by decide +kernel) (fun c3 => ?_) (fun c3 => ?_)
  · have f3 := fl_t hw2 c3
    refine lv_iload_n hx hb dX11_who_16 rfl (lv_at hl 2 rfl) ?_
    refine lv_aload_n hx hb dX11_who_17 rfl (lv_at hl 0 rfl) ?_
    refine xgT_X_casts hx hb hts (fun _ h => List.mem_cons_of_mem _ (List.mem_append_left _ (List.mem_append_right _ h))) hown hK hP (hts (.fieldLink RX11 60 "TalePlay" "casts" "LTalePlay$Casts;") (List.mem_cons_of_mem _ (List.mem_append_left _ (List.mem_append_left _ (List.mem_of_getElem? (i := 0) rfl))))) dX11_who_18 ?_
    refine xgT_C_lengths hx hb hts (fun _ h => List.mem_cons_of_mem _ (List.mem_append_right _ h)) hown hK hP (hts (.fieldLink RX11 340 "TalePlay$Casts" "lengths" "[I") (List.mem_cons_of_mem _ (List.mem_append_left _ (List.mem_append_left _ (List.mem_of_getElem? (i := 6) rfl))))) dX11_who_21 ?_
    refine lv_iload_n hx hb dX11_who_24 rfl (lv_at hl 1 rfl) ?_
    refine xlT_163 hx hb hK hP (vp_in_iff.mpr (by have h9 : w.toInt = w.toInt := rfl; omega)) dX11_who_25 (fun x4 ex4 => ?_)
    have rx4 : 0 ≤ x4.toInt ∧ x4.toInt ≤ 12 := by rw [ex4]; exact hI.2 163 _
    have gx4 : (c 163 (w : Int32).toNatClampNeg).toInt = x4.toInt := (congrArg Int32.toInt ex4).symm
    have hPc := hP.sub (ws' := []) [] rfl
    have hKc := hK.sub (tys' := []) [] rfl
    refine ro_calli (va_runS (As := [.int n1, .int x4]) (rest := []) ⟨hx, hb, hml, hown, hts⟩ (c_X11_isBelow l D H.size n1 x4 n1.toInt x4.toInt rfl rfl) (va_cwS 2 hts gm_X11_who_e_X11_isBelow_91 rfl rfl rfl (by decide +kernel) ⟨Nat.le_of_ble_eq_true rfl, Nat.le_of_ble_eq_true rfl⟩) (pA_S hKc hPc) rfl rfl hl.1 rfl (lv_room (Nat.le_of_ble_eq_true rfl)) dX11_who_26 ⟨Nat.le_of_ble_eq_true rfl, Nat.le_of_ble_eq_true rfl⟩) hS hA hP (fun r6 u6 H locs hw6 hP hS => ?_)
    have hw6 : r6 = if (0 ≤ n1.toInt ∧ n1.toInt < x4.toInt) then 1 else 0 := hw6
    refine lv_if_ne (tgt := 38) hx hb dX11_who_29 (by decide +kernel) (fun c7 => ?_) (fun c7 => ?_)
    · have f7 := fl_t hw6 c7
      refine lv_aload_n hx hb dX11_who_38 rfl (lv_at hl 0 rfl) ?_
      refine xgT_X_casts hx hb hts (fun _ h => List.mem_cons_of_mem _ (List.mem_append_left _ (List.mem_append_right _ h))) hown hK hP (hts (.fieldLink RX11 60 "TalePlay" "casts" "LTalePlay$Casts;") (List.mem_cons_of_mem _ (List.mem_append_left _ (List.mem_append_left _ (List.mem_of_getElem? (i := 0) rfl))))) dX11_who_39 ?_
      refine xgT_C_roles hx hb hts (fun _ h => List.mem_cons_of_mem _ (List.mem_append_right _ h)) hown hK hP (hts (.fieldLink RX11 347 "TalePlay$Casts" "roles" "[I") (List.mem_cons_of_mem _ (List.mem_append_left _ (List.mem_append_left _ (List.mem_of_getElem? (i := 7) rfl))))) dX11_who_42 ?_
      refine lv_iload_n hx hb dX11_who_45 rfl (lv_at hl 1 rfl) ?_
      refine lv_bipush (v := 12) hx hb dX11_who_46 (by decide +kernel) ?_
      refine lv_imul hx hb dX11_who_48 ?_
      refine lv_topi (fun x8 ex8 => ?_)
      have tx8 := ti_mul (a := w.toInt) (b := 12) ex8 rfl (by decide +kernel) (by omega) (by omega)
      refine lv_iload_n hx hb dX11_who_49 rfl (lv_at hl 2 rfl) ?_
      refine lv_iadd hx hb dX11_who_50 ?_
      refine lv_topi (fun x9 ex9 => ?_)
      have tx9 := ti_add (a := (w.toInt * 12)) (b := n1.toInt) ex9 tx8 rfl (by omega) (by omega)
      refine xlT_164 hx hb hK hP (vp_in_iff.mpr (by have h9 : x9.toInt = ((w.toInt * 12) + n1.toInt) := tx9; omega)) dX11_who_51 (fun x10 ex10 => ?_)
      have rx10 : x10.toInt = -9 ∨ (0 ≤ x10.toInt ∧ x10.toInt ≤ 29) := by rw [ex10]; exact hI.2 164 _
      refine lv_istore_n (lv' := [(3, .int x10), (0, .ref (a 100)), (1, .int w), (2, .int n1)]) hx hb dX11_who_52 rfl hl (by decide +kernel) rfl (fun ls hl => ?_)
      refine lv_iload_n hx hb dX11_who_53 rfl (lv_at hl 0 rfl) ?_
      refine lv_bipush (v := (-9)) hx hb dX11_who_54 (by decide +kernel) ?_
      refine lv_icmp_ne (tgt := 67) hx hb dX11_who_56 (by decide +kernel) (fun c11 => ?_) (fun c11 => ?_)
      · have f11 := mt (ti_eq (a := x10.toInt) (b := (-9)) rfl (by decide +kernel)).mpr c11
        refine lv_iload_n hx hb dX11_who_67 rfl (lv_at hl 0 rfl) ?_
        exact rw_iret (i, q, c, d) hx hb hr hlocks hS (hK.sub (tys' := []) [] rfl) hP hD dX11_who_68 ⟨trivial, hI, fr_w hfi (by decide +kernel), fr_w hfc (by decide +kernel), (show WhR (c 164) (c 163) w n1 (i 165) (x10 : Int32) from Or.inr (Or.inr ⟨by omega, by omega, by omega, by omega, by omega, Or.inr ⟨by rw [ix_n (f := c 164) (s := x9) (show (x9 : Int32).toInt = w.toInt * 12 + n1.toInt from by omega) ex10]; omega, (ix_n (f := c 164) (s := x9) (show (x9 : Int32).toInt = w.toInt * 12 + n1.toInt from by omega) ex10).symm⟩⟩))⟩
      · have f11 := (ti_eq (a := x10.toInt) (b := (-9)) rfl (by decide +kernel)).mp c11
        refine lv_aload_n hx hb dX11_who_59 rfl (lv_at hl 1 rfl) ?_
        refine lv_iconst (v := 1) hx hb dX11_who_60 (by decide +kernel) ?_
        refine al_calli (va_runV (As := [.int 1]) (rest := []) ⟨hx, hb, hml, hown, hts⟩ (x_X11_answerFinding l D H.size sk a t i q c d 1 hI (show 1 ≤ 1 ∧ 1 ≤ 6 from by decide +kernel)) (cwV 1 hts gm_X11_who_e_X11_answerFinding_128 rfl rfl rfl (by decide +kernel) ⟨Nat.le_of_ble_eq_true rfl, Nat.le_of_ble_eq_true rfl⟩) (yB_V hN (xZ_k hZ hS hA) (xZ_n hZ hD) hK hP hD (ci := 11) (q0 := 0) rfl rfl) rfl rfl hl.1 rfl (lv_room (Nat.le_of_ble_eq_true rfl)) dX11_who_61 ⟨Nat.le_of_ble_eq_true rfl, Nat.le_of_ble_eq_true rfl⟩) hS hA hP hD (fun r12 u12 H locs hw12 hP hD hS => ?_)
        obtain ⟨i12, q12, c12, d12⟩ := u12
        have hw12 : r12 = (-3) ∧ xInv i12 c12 ∧ (∀ k, k ∉ ([102] : List Nat) → i12 k = i k) ∧ (∀ k, k ∉ ([101] : List Nat) → c12 k = c k) := hw12
        obtain ⟨hw12, hI, hei12, hec12⟩ := hw12
        have hfi : ∀ k, k ∉ ([102] : List Nat) → i12 k = i k := fr_z hfi hei12 (by decide +kernel) (by decide +kernel)
        have hfc : ∀ k, k ∉ ([101] : List Nat) → c12 k = c k := fr_z hfc hec12 (by decide +kernel) (by decide +kernel)
        have hw12 : r12 = (-3) := hw12
        subst hw12
        refine lv_goto (tgt := 68) hx hb dX11_who_64 (by decide +kernel) ?_
        exact rw_iret (i12, q12, c12, d12) hx hb hr hlocks hS (hK.sub (tys' := []) [] rfl) hP hD dX11_who_68 ⟨trivial, hI, fr_w hfi (by decide +kernel), fr_w hfc (by decide +kernel), (show WhR (c 164) (c 163) w n1 (i 165) ((-3) : Int32) from Or.inr (Or.inr ⟨by omega, by omega, by omega, by omega, by omega, Or.inl ⟨by rw [ix_n (f := c 164) (s := x9) (show (x9 : Int32).toInt = w.toInt * 12 + n1.toInt from by omega) ex10]; omega, by decide⟩⟩))⟩
    · have f7 := fl_f hw6 c7
      refine lv_aload_n hx hb dX11_who_32 rfl (lv_at hl 0 rfl) ?_
      refine lv_iconst (v := 2) hx hb dX11_who_33 (by decide +kernel) ?_
      refine al_calli (va_runV (As := [.int 2]) (rest := []) ⟨hx, hb, hml, hown, hts⟩ (x_X11_answerFinding l D H.size sk a t i q c d 2 hI (show 1 ≤ 2 ∧ 2 ≤ 6 from by decide +kernel)) (cwV 1 hts gm_X11_who_e_X11_answerFinding_128 rfl rfl rfl (by decide +kernel) ⟨Nat.le_of_ble_eq_true rfl, Nat.le_of_ble_eq_true rfl⟩) (yB_V hN (xZ_k hZ hS hA) (xZ_n hZ hD) hK hP hD (ci := 11) (q0 := 0) rfl rfl) rfl rfl hl.1 rfl (lv_room (Nat.le_of_ble_eq_true rfl)) dX11_who_34 ⟨Nat.le_of_ble_eq_true rfl, Nat.le_of_ble_eq_true rfl⟩) hS hA hP hD (fun r13 u13 H locs hw13 hP hD hS => ?_)
      obtain ⟨i13, q13, c13, d13⟩ := u13
      have hw13 : r13 = (-3) ∧ xInv i13 c13 ∧ (∀ k, k ∉ ([102] : List Nat) → i13 k = i k) ∧ (∀ k, k ∉ ([101] : List Nat) → c13 k = c k) := hw13
      obtain ⟨hw13, hI, hei13, hec13⟩ := hw13
      have hfi : ∀ k, k ∉ ([102] : List Nat) → i13 k = i k := fr_z hfi hei13 (by decide +kernel) (by decide +kernel)
      have hfc : ∀ k, k ∉ ([101] : List Nat) → c13 k = c k := fr_z hfc hec13 (by decide +kernel) (by decide +kernel)
      have hw13 : r13 = (-3) := hw13
      subst hw13
      exact rw_iret (i13, q13, c13, d13) hx hb hr hlocks hS (hK.sub (tys' := []) [] rfl) hP hD dX11_who_37 ⟨trivial, hI, fr_w hfi (by decide +kernel), fr_w hfc (by decide +kernel), (show WhR (c 164) (c 163) w n1 (i 165) ((-3) : Int32) from Or.inr (Or.inl ⟨by omega, by omega, by omega, by decide⟩))⟩
  · have f3 := fl_f hw2 c3
    refine lv_iconst (v := (-1)) hx hb dX11_who_14 (by decide +kernel) ?_
    exact rw_iret (i, q, c, d) hx hb hr hlocks hS (hK.sub (tys' := []) [] rfl) hP hD dX11_who_15 ⟨trivial, hI, fr_w hfi (by decide +kernel), fr_w hfc (by decide +kernel), (show WhR (c 164) (c 163) w n1 (i 165) ((-1) : Int32) from Or.inl ⟨by omega, by decide⟩)⟩

set_option maxHeartbeats 4000000 in
set_option maxRecDepth 100000 in
theorem s_X12_who_e (l : Launch) (D : va_G) (sz : Nat) (o : Nat) (a : Nat → Nat) (t : Nat → ClassId) (i : Nat → Int32) (q : Int64) (c : Nat → Nat → Int32) (d : Nat → Nat → Int64) (w : Int32) (n1 : Int32) (hI : mInv i c) : Met l yX12_who wm_X12_who ({ frames := 1, cells := 0, slots := 0, locals := 25 }) (va_Pc [.ref o, .int w, .int n1] (pB D sz (mW o a t i q c d) (mT t))) (va_Qi (fun (r : Int32) (u : MS) => True ∧ mInv u.1 u.2.2.1 ∧ (∀ k, k ∉ ([0] : List Nat) → u.1 k = i k) ∧ (∀ k, k ∉ ([1] : List Nat) → u.2.2.1 k = c k) ∧ (WhR (c 67) (c 66) w n1 (i 64) r)) (oC D (va_A (mW o a t i q c d) sz) (fun u : MS => mW o a t u.1 u.2.1 u.2.2.1 u.2.2.2) (fun _ => [])) (va_A (mW o a t i q c d) sz)) 0 0 (va_A (mW o a t i q c d) sz) := by
  refine Met.ofW (cc := cX12_who) (maxL := 3) (ret := (some .int)) (by decide +kernel) rfl ?_
  intro p e s m args below meth cd s₁ B hml hv
  obtain ⟨rfl, hsz, hP, hK, hD0⟩ := hv
  have hx := B.exec
  have hb := B.bytes
  have hr := B.returns
  have hts := atoms_spec (ws := wm_X12_who) B.pre
  have hown : s.vm.findClass RX12 = some m.cls := findClass_of_methodNamed B.named
  have hlocks := B.notSynchronized
  subst hsz
  have hD := hD0.self (sz := s.heap.size)
  generalize hAe : va_A (mW o a t i q c d) s.heap.size = A at hD ⊢
  have hA : ∀ q : Nat, s.heap.size ≤ q → A q := fun q h => by rw [← hAe]; exact Or.inr h
  have hS : va_S A s.heap s.heap [] := va_S.rf
  have hfi : ∀ k, k ∉ ([] : List Nat) → i k = i k := fun _ _ => rfl
  have hfc : ∀ k, k ∉ ([] : List Nat) → c k = c k := fun _ _ => rfl
  have hl := lv_entry ([.ref o, .int w, .int n1]) (n := 3) (Nat.le_of_ble_eq_true rfl)
  rw [lg_entry_eq]
  generalize (lg_sl ([.ref o, .int w, .int n1]) ++ List.replicate (3 - (lg_sl ([.ref o, .int w, .int n1])).length) Slot.unset).toArray = ls at hl ⊢
  have hl : lv_has ls 3 [(0, .ref o), (1, .int w), (2, .int n1)] := hl
  have rb64_i : 0 ≤ (i 64).toInt ∧ (i 64).toInt ≤ 10 := hI.1 64
  refine lv_iload_n hx hb dX12_who_0 rfl (lv_at hl 1 rfl) ?_
  refine lv_i2l (v := w.toInt64) hx hb dX12_who_1 rfl ?_
  refine lv_lconst (v := 0) hx hb dX12_who_2 (by decide +kernel) ?_
  refine lv_aload_n hx hb dX12_who_3 rfl (lv_at hl 0 rfl) ?_
  refine mget_64 (v := (i 64)) rfl hx hb hts (fun _ h => List.mem_cons_of_mem _ (List.mem_append_right _ h)) hown hK hP (hts (.fieldLink RX12 450 "TalePlayModel" "casts" "I") (List.mem_cons_of_mem _ (List.mem_append_left _ (List.mem_of_getElem? (i := 0) rfl)))) dX12_who_4 ?_
  refine lv_iconst (v := 1) hx hb dX12_who_7 (by decide +kernel) ?_
  refine lv_isub hx hb dX12_who_8 ?_
  refine lv_topi (fun x1 ex1 => ?_)
  have tx1 := ti_sub (a := (i 64).toInt) (b := 1) ex1 rfl (by decide +kernel) (by omega) (by omega)
  refine lv_i2l (v := x1.toInt64) hx hb dX12_who_9 rfl ?_
  have hPc := hP.sub (ws' := []) [] rfl
  have hKc := hK.sub (tys' := []) [] rfl
  refine ro_calli (va_runS (As := [.long w.toInt64, .long 0, .long x1.toInt64]) (rest := []) ⟨hx, hb, hml, hown, hts⟩ (c_X12_in l D s.heap.size w.toInt64 0 x1.toInt64 w.toInt 0 ((i 64).toInt - 1) ((Int32.toInt_toInt64 w).trans rfl) (by decide +kernel) ((Int32.toInt_toInt64 x1).trans tx1)) (va_cwS 3 hts gm_X12_who_X12_in rfl rfl rfl (by decide +kernel) ⟨Nat.le_of_ble_eq_true rfl, Nat.le_of_ble_eq_true rfl⟩) (pA_S hKc hPc) rfl rfl hl.1 rfl (lv_room (Nat.le_of_ble_eq_true rfl)) dX12_who_10 ⟨Nat.le_of_ble_eq_true rfl, Nat.le_of_ble_eq_true rfl⟩) hS hA hP (fun r2 u2 H locs hw2 hP hS => ?_)
  have hw2 : r2 = if (0 ≤ w.toInt ∧ w.toInt ≤ ((i 64).toInt - 1)) then 1 else 0 := hw2
  refine lv_if_ne (tgt := 18) hx hb dX12_who_13 (by decide +kernel) (fun c3 => ?_) (fun c3 => ?_)
  · have f3 := fl_t hw2 c3
    refine lv_iload_n hx hb dX12_who_18 rfl (lv_at hl 2 rfl) ?_
    refine lv_i2l (v := n1.toInt64) hx hb dX12_who_19 rfl ?_
    refine lv_lconst (v := 0) hx hb dX12_who_20 (by decide +kernel) ?_
    refine lv_aload_n hx hb dX12_who_21 rfl (lv_at hl 0 rfl) ?_
    refine mget_66 hx hb hts (fun _ h => List.mem_cons_of_mem _ (List.mem_append_right _ h)) hown hK hP (hts (.fieldLink RX12 142 "TalePlayModel" "castMany" "[I") (List.mem_cons_of_mem _ (List.mem_append_left _ (List.mem_of_getElem? (i := 5) rfl)))) dX12_who_22 ?_
    refine lv_iload_n hx hb dX12_who_25 rfl (lv_at hl 1 rfl) ?_
    refine mld_66 hx hb hK hP (vp_in_iff.mpr (by have h9 : w.toInt = w.toInt := rfl; omega)) dX12_who_26 (fun x4 ex4 => ?_)
    have rx4 : 0 ≤ x4.toInt ∧ x4.toInt ≤ 12 := by rw [ex4]; exact hI.2 66 _
    have gx4 : (c 66 (w : Int32).toNatClampNeg).toInt = x4.toInt := by rw [ex4]
    refine lv_iconst (v := 1) hx hb dX12_who_27 (by decide +kernel) ?_
    refine lv_isub hx hb dX12_who_28 ?_
    refine lv_topi (fun x5 ex5 => ?_)
    have tx5 := ti_sub (a := x4.toInt) (b := 1) ex5 rfl (by decide +kernel) (by omega) (by omega)
    refine lv_i2l (v := x5.toInt64) hx hb dX12_who_29 rfl ?_
    have hPc := hP.sub (ws' := []) [] rfl
    have hKc := hK.sub (tys' := []) [] rfl
    refine ro_calli (va_runS (As := [.long n1.toInt64, .long 0, .long x5.toInt64]) (rest := []) ⟨hx, hb, hml, hown, hts⟩ (c_X12_in l D H.size n1.toInt64 0 x5.toInt64 n1.toInt 0 (x4.toInt - 1) ((Int32.toInt_toInt64 n1).trans rfl) (by decide +kernel) ((Int32.toInt_toInt64 x5).trans tx5)) (va_cwS 3 hts gm_X12_who_X12_in rfl rfl rfl (by decide +kernel) ⟨Nat.le_of_ble_eq_true rfl, Nat.le_of_ble_eq_true rfl⟩) (pA_S hKc hPc) rfl rfl hl.1 rfl (lv_room (Nat.le_of_ble_eq_true rfl)) dX12_who_30 ⟨Nat.le_of_ble_eq_true rfl, Nat.le_of_ble_eq_true rfl⟩) hS hA hP (fun r6 u6 H locs hw6 hP hS => ?_)
    have hw6 : r6 = if (0 ≤ n1.toInt ∧ n1.toInt ≤ (x4.toInt - 1)) then 1 else 0 := hw6
    refine lv_if_ne (tgt := 42) hx hb dX12_who_33 (by decide +kernel) (fun c7 => ?_) (fun c7 => ?_)
    · have f7 := fl_t hw6 c7
      refine lv_aload_n hx hb dX12_who_42 rfl (lv_at hl 0 rfl) ?_
      refine mget_67 hx hb hts (fun _ h => List.mem_cons_of_mem _ (List.mem_append_right _ h)) hown hK hP (hts (.fieldLink RX12 145 "TalePlayModel" "roles" "[I") (List.mem_cons_of_mem _ (List.mem_append_left _ (List.mem_of_getElem? (i := 6) rfl)))) dX12_who_43 ?_
      refine lv_bipush (v := 12) hx hb dX12_who_46 (by decide +kernel) ?_
      refine lv_iload_n hx hb dX12_who_48 rfl (lv_at hl 1 rfl) ?_
      refine lv_imul hx hb dX12_who_49 ?_
      refine lv_topi (fun x8 ex8 => ?_)
      have tx8 := ti_mul (a := 12) (b := w.toInt) ex8 (by decide +kernel) rfl (by omega) (by omega)
      refine lv_iload_n hx hb dX12_who_50 rfl (lv_at hl 2 rfl) ?_
      refine lv_iadd hx hb dX12_who_51 ?_
      refine lv_topi (fun x9 ex9 => ?_)
      have tx9 := ti_add (a := (12 * w.toInt)) (b := n1.toInt) ex9 tx8 rfl (by omega) (by omega)
      refine mld_67 hx hb hK hP (vp_in_iff.mpr (by have h9 : x9.toInt = ((12 * w.toInt) + n1.toInt) := tx9; omega)) dX12_who_52 (fun x10 ex10 => ?_)
      have rx10 : x10.toInt = -9 ∨ (0 ≤ x10.toInt ∧ x10.toInt ≤ 29) := by rw [ex10]; exact hI.2 67 _
      refine lv_bipush (v := (-9)) hx hb dX12_who_53 (by decide +kernel) ?_
      refine lv_icmp_ne (tgt := 66) hx hb dX12_who_55 (by decide +kernel) (fun c11 => ?_) (fun c11 => ?_)
      · have f11 := mt (ti_eq (a := x10.toInt) (b := (-9)) rfl (by decide +kernel)).mpr c11
        refine lv_aload_n hx hb dX12_who_66 rfl (lv_at hl 0 rfl) ?_
        refine mget_67 hx hb hts (fun _ h => List.mem_cons_of_mem _ (List.mem_append_right _ h)) hown hK hP (hts (.fieldLink RX12 145 "TalePlayModel" "roles" "[I") (List.mem_cons_of_mem _ (List.mem_append_left _ (List.mem_of_getElem? (i := 6) rfl)))) dX12_who_67 ?_
        refine lv_bipush (v := 12) hx hb dX12_who_70 (by decide +kernel) ?_
        refine lv_iload_n hx hb dX12_who_72 rfl (lv_at hl 1 rfl) ?_
        refine lv_imul hx hb dX12_who_73 ?_
        refine lv_topi (fun x12 ex12 => ?_)
        have tx12 := ti_mul (a := 12) (b := w.toInt) ex12 (by decide +kernel) rfl (by omega) (by omega)
        refine lv_iload_n hx hb dX12_who_74 rfl (lv_at hl 2 rfl) ?_
        refine lv_iadd hx hb dX12_who_75 ?_
        refine lv_topi (fun x13 ex13 => ?_)
        have tx13 := ti_add (a := (12 * w.toInt)) (b := n1.toInt) ex13 tx12 rfl (by omega) (by omega)
        refine mld_67 hx hb hK hP (vp_in_iff.mpr (by have h9 : x13.toInt = ((12 * w.toInt) + n1.toInt) := tx13; omega)) dX12_who_76 (fun x14 ex14 => ?_)
        have rx14 : x14.toInt = -9 ∨ (0 ≤ x14.toInt ∧ x14.toInt ≤ 29) := by rw [ex14]; exact hI.2 67 _
        exact rw_iret (i, q, c, d) hx hb hr hlocks hS (hK.sub (tys' := []) [] rfl) hP hD dX12_who_77 ⟨trivial, hI, fr_w hfi (by decide +kernel), fr_w hfc (by decide +kernel), (show WhR (c 67) (c 66) w n1 (i 64) (x14 : Int32) from Or.inr (Or.inr ⟨by omega, by omega, by omega, by omega, by omega, Or.inr ⟨by rw [ix_n (f := c 67) (s := x9) (show (x9 : Int32).toInt = w.toInt * 12 + n1.toInt from by omega) ex10]; omega, (ix_n (f := c 67) (s := x13) (show (x13 : Int32).toInt = w.toInt * 12 + n1.toInt from by omega) ex14).symm⟩⟩))⟩
      · have f11 := (ti_eq (a := x10.toInt) (b := (-9)) rfl (by decide +kernel)).mp c11
        refine lv_aload_n hx hb dX12_who_58 rfl (lv_at hl 0 rfl) ?_
        refine lv_iconst (v := 1) hx hb dX12_who_59 (by decide +kernel) ?_
        refine al_calli (va_runV (As := [.int 1]) (rest := []) ⟨hx, hb, hml, hown, hts⟩ (s_X12_meets l D H.size o a t i q c d 1 hI (show 1 ≤ 1 ∧ 1 ≤ 6 from by decide +kernel)) (cwV 1 hts gm_X12_who_X12_meets rfl rfl rfl (by decide +kernel) ⟨Nat.le_of_ble_eq_true rfl, Nat.le_of_ble_eq_true rfl⟩) (pB_V hK hP hD (ci := 12) (q0 := 0) rfl rfl) rfl rfl hl.1 rfl (lv_room (Nat.le_of_ble_eq_true rfl)) dX12_who_60 ⟨Nat.le_of_ble_eq_true rfl, Nat.le_of_ble_eq_true rfl⟩) hS hA hP hD (fun r15 u15 H locs hw15 hP hD hS => ?_)
        obtain ⟨i15, q15, c15, d15⟩ := u15
        have hw15 : r15 = (-3) ∧ mInv i15 c15 ∧ (∀ k, k ∉ ([0] : List Nat) → i15 k = i k) ∧ (∀ k, k ∉ ([1] : List Nat) → c15 k = c k) := hw15
        obtain ⟨hw15, hI, hei15, hec15⟩ := hw15
        have hfi : ∀ k, k ∉ ([0] : List Nat) → i15 k = i k := fr_z hfi hei15 (by decide +kernel) (by decide +kernel)
        have hfc : ∀ k, k ∉ ([1] : List Nat) → c15 k = c k := fr_z hfc hec15 (by decide +kernel) (by decide +kernel)
        have hP : va_P D vwCl (mW o a t i15 q15 c15 d15) H := hP
        have hD : va_D A (mW o a t i15 q15 c15 d15) := hD
        have hw15 : r15 = (-3) := hw15
        subst hw15
        refine lv_goto (tgt := 77) hx hb dX12_who_63 (by decide +kernel) ?_
        exact rw_iret (i15, q15, c15, d15) hx hb hr hlocks hS (hK.sub (tys' := []) [] rfl) hP hD dX12_who_77 ⟨trivial, hI, fr_w hfi (by decide +kernel), fr_w hfc (by decide +kernel), (show WhR (c 67) (c 66) w n1 (i 64) ((-3) : Int32) from Or.inr (Or.inr ⟨by omega, by omega, by omega, by omega, by omega, Or.inl ⟨by rw [ix_n (f := c 67) (s := x9) (show (x9 : Int32).toInt = w.toInt * 12 + n1.toInt from by omega) ex10]; omega, by decide⟩⟩))⟩
    · have f7 := fl_f hw6 c7
      refine lv_aload_n hx hb dX12_who_36 rfl (lv_at hl 0 rfl) ?_
      refine lv_iconst (v := 2) hx hb dX12_who_37 (by decide +kernel) ?_
      refine al_calli (va_runV (As := [.int 2]) (rest := []) ⟨hx, hb, hml, hown, hts⟩ (s_X12_meets l D H.size o a t i q c d 2 hI (show 1 ≤ 2 ∧ 2 ≤ 6 from by decide +kernel)) (cwV 1 hts gm_X12_who_X12_meets rfl rfl rfl (by decide +kernel) ⟨Nat.le_of_ble_eq_true rfl, Nat.le_of_ble_eq_true rfl⟩) (pB_V hK hP hD (ci := 12) (q0 := 0) rfl rfl) rfl rfl hl.1 rfl (lv_room (Nat.le_of_ble_eq_true rfl)) dX12_who_38 ⟨Nat.le_of_ble_eq_true rfl, Nat.le_of_ble_eq_true rfl⟩) hS hA hP hD (fun r16 u16 H locs hw16 hP hD hS => ?_)
      obtain ⟨i16, q16, c16, d16⟩ := u16
      have hw16 : r16 = (-3) ∧ mInv i16 c16 ∧ (∀ k, k ∉ ([0] : List Nat) → i16 k = i k) ∧ (∀ k, k ∉ ([1] : List Nat) → c16 k = c k) := hw16
      obtain ⟨hw16, hI, hei16, hec16⟩ := hw16
      have hfi : ∀ k, k ∉ ([0] : List Nat) → i16 k = i k := fr_z hfi hei16 (by decide +kernel) (by decide +kernel)
      have hfc : ∀ k, k ∉ ([1] : List Nat) → c16 k = c k := fr_z hfc hec16 (by decide +kernel) (by decide +kernel)
      have hP : va_P D vwCl (mW o a t i16 q16 c16 d16) H := hP
      have hD : va_D A (mW o a t i16 q16 c16 d16) := hD
      have hw16 : r16 = (-3) := hw16
      subst hw16
      exact rw_iret (i16, q16, c16, d16) hx hb hr hlocks hS (hK.sub (tys' := []) [] rfl) hP hD dX12_who_41 ⟨trivial, hI, fr_w hfi (by decide +kernel), fr_w hfc (by decide +kernel), (show WhR (c 67) (c 66) w n1 (i 64) ((-3) : Int32) from Or.inr (Or.inl ⟨by omega, by omega, by omega, by decide⟩))⟩
  · have f3 := fl_f hw2 c3
    refine lv_iconst (v := (-1)) hx hb dX12_who_16 (by decide +kernel) ?_
    exact rw_iret (i, q, c, d) hx hb hr hlocks hS (hK.sub (tys' := []) [] rfl) hP hD dX12_who_17 ⟨trivial, hI, fr_w hfi (by decide +kernel), fr_w hfc (by decide +kernel), (show WhR (c 67) (c 66) w n1 (i 64) ((-1) : Int32) from Or.inl ⟨by omega, by decide⟩)⟩

