/-! a cell more, laid behind the first -/
theorem rotP {D : va_G} {cl : List vw_C} {o x : Nat × va_E} {R : va_W} {H : Heap} (h : va_P D cl ((o :: R) ++ [x]) H) : va_P D cl (o :: x :: R) H := by
  intro k q hk
  have hm : q ∈ (o :: R) ++ [x] := by
    have h9 := List.mem_of_getElem? hk
    simp only [List.mem_cons, List.mem_append, List.not_mem_nil, or_false] at h9 ⊢
    rcases h9 with h9 | h9 | h9
    · exact Or.inl (Or.inl h9)
    · exact Or.inr h9
    · exact Or.inl (Or.inr h9)
  obtain ⟨i, hi⟩ := List.getElem?_of_mem hm
  exact h i q hi
theorem rotK {D : va_G} {cl : List vw_C} {x : ClassId × FieldType} {T : List (ClassId × FieldType)} {U : State} (h : va_K D cl (T ++ [x]) U) : va_K D cl (x :: T) U := by
  refine ⟨h.1, fun k q hk => ?_⟩
  have hm : q ∈ T ++ [x] := by
    have h9 := List.mem_of_getElem? hk
    simp only [List.mem_cons, List.mem_append, List.not_mem_nil, or_false] at h9 ⊢
    rcases h9 with h9 | h9
    · exact Or.inr h9
    · exact Or.inl h9
  obtain ⟨i, hi⟩ := List.getElem?_of_mem hm
  exact h.2 i q hi
theorem rotD {A : Nat → Prop} {o x : Nat × va_E} {R : va_W} (h : va_D A ((o :: R) ++ [x])) : va_D A (o :: x :: R) := by
  have h1 : va_D A ([o] ++ R) := vD_l h
  have h2 := vD_r h
  have hx := vD_x h
  refine va_D.app (w1 := [o]) (vD_l h1) (va_D.app (w1 := [x]) h2 (vD_r h1) (fun i j p q hp hq e => ?_)) (fun i j p q hp hq e => ?_)
  · exact hx (j + 1) i q p hq hp e.symm
  · have hi : i < 1 := (List.getElem?_eq_some_iff.mp hp).1
    have hi : i = 0 := by omega
    subst hi
    cases j with
    | zero => exact hx 0 0 p q hp hq e
    | succ j => exact vD_x h1 0 j p q hp hq e
def wm_i_X12_init : List Cond := .code yX12_init cX12_init 2 none :: ((([.code objectInit ⟨#[0xb1]⟩ 1 none, .methodLink RX12 1 objectInit, .instanceMethod objectInit, .arrayClass .int, .fieldLink RX12 7 "TalePlayModel" "came" "[I", .fieldLink RX12 13 "TalePlayModel" "parentOf" "[I", .fieldLink RX12 16 "TalePlayModel" "defaults" "[I", .fieldLink RX12 19 "TalePlayModel" "kindOf" "[I", .fieldLink RX12 22 "TalePlayModel" "sizeOf" "[I", .fieldLink RX12 25 "TalePlayModel" "form" "[I", .fieldLink RX12 28 "TalePlayModel" "left" "[I", .fieldLink RX12 31 "TalePlayModel" "middle" "[I", .fieldLink RX12 34 "TalePlayModel" "right" "[I", .arrayClass .boolean, .fieldLink RX12 37 "TalePlayModel" "isSaid" "[Z", .fieldLink RX12 41 "TalePlayModel" "row" "[I"] : List Cond) ++ (([.fieldLink RX12 44 "TalePlayModel" "far" "[I", .fieldLink RX12 47 "TalePlayModel" "line" "[I", .fieldLink RX12 50 "TalePlayModel" "nForm" "[I", .fieldLink RX12 53 "TalePlayModel" "nAt" "[I", .fieldLink RX12 56 "TalePlayModel" "nOpen" "[Z", .fieldLink RX12 59 "TalePlayModel" "nLocked" "[Z", .fieldLink RX12 62 "TalePlayModel" "turnRow" "[I", .fieldLink RX12 65 "TalePlayModel" "wasForm" "[I", .fieldLink RX12 68 "TalePlayModel" "wasAt" "[I", .fieldLink RX12 71 "TalePlayModel" "wasOpen" "[Z", .fieldLink RX12 74 "TalePlayModel" "wasLocked" "[Z", .fieldLink RX12 77 "TalePlayModel" "trace" "[I", .fieldLink RX12 80 "TalePlayModel" "pile" "[I", .fieldLink RX12 83 "TalePlayModel" "nextIn" "[I", .fieldLink RX12 86 "TalePlayModel" "seen" "[Z", .fieldLink RX12 89 "TalePlayModel" "reached" "[Z"] : List Cond) ++ (([.fieldLink RX12 92 "TalePlayModel" "lit" "[Z", .fieldLink RX12 95 "TalePlayModel" "glass" "[Z", .fieldLink RX12 98 "TalePlayModel" "isBox" "[Z", .fieldLink RX12 101 "TalePlayModel" "isRoom" "[Z", .fieldLink RX12 104 "TalePlayModel" "isDoor" "[Z", .arrayClass .byte, .fieldLink RX12 107 "TalePlayModel" "stateForm" "[B", .fieldLink RX12 111 "TalePlayModel" "stateAt" "[B", .fieldLink RX12 114 "TalePlayModel" "stateShut" "[B", .fieldLink RX12 117 "TalePlayModel" "stateFrom" "[I", .fieldLink RX12 120 "TalePlayModel" "stateAct" "[I", .fieldLink RX12 123 "TalePlayModel" "soughtRow" "[I", .fieldLink RX12 126 "TalePlayModel" "lineSort" "[I", .fieldLink RX12 129 "TalePlayModel" "lineMany" "[I", .arrayClass .long, .fieldLink RX12 132 "TalePlayModel" "items" "[J"] : List Cond) ++ ([.fieldLink RX12 136 "TalePlayModel" "hasLine" "[Z", .fieldLink RX12 139 "TalePlayModel" "castSort" "[I", .fieldLink RX12 142 "TalePlayModel" "castMany" "[I", .fieldLink RX12 145 "TalePlayModel" "roles" "[I", .fieldLink RX12 148 "TalePlayModel" "held" "[J", .fieldLink RX12 151 "TalePlayModel" "kinds" "I", .fieldLink RX12 155 "TalePlayModel" "player" "I", .fieldLink RX12 158 "TalePlayModel" "soughtMany" "I"] : List Cond)))) ++ wsX120)
def fpM : Nat → Int32 := (upd (upd (upd (upd (upd (upd (fun _ => 0) (0 : Int32).toNatClampNeg (-9)) (1 : Int32).toNatClampNeg (-9)) (2 : Int32).toNatClampNeg 1) (3 : Int32).toNatClampNeg 1) (4 : Int32).toNatClampNeg 1) (5 : Int32).toNatClampNeg 1)
def fdM : Nat → Int32 := fun j => if j < 144 then -9 else 0
def iBM : Nat → Int32 := fun k => if k = 2 then 6 else 0
def i0M : Nat → Int32 := (upd (upd iBM 22 (-9)) 57 (-9))
def cBM : Nat → Nat → Int32 := fun k => if k = 3 then fpM else fun _ => 0
def c0M : Nat → Nat → Int32 := updF cBM 4 fdM
def d0M : Nat → Nat → Int64 := fun _ _ => 0
theorem mloop {p : Program} {l : Launch} {e : Env} {R : Room} {s : State} {m : MethodId} {args : Array Value} {below : List Frame} {meth : Method} {c : Code} {Q : State → Prop} {D : va_G} {A : Nat → Prop} {cells slots m0 : Nat} {am : Nat → Nat} {tm : Nat → ClassId} {i : Nat → Int32} {c0 : Nat → Nat → Int32}
    (hx : p.tables.exec = Jvm.exec) (hb : c.code = cX12_init) (hts : ∀ w ∈ wm_i_X12_init, w.before args s = true) (hown : s.vm.findClass RX12 = some m.cls) (hK : va_K D vwCl (mT tm) s)
    (kk : ∀ (g : Nat → Int32) (H : Heap) (locs : List Loc) (ls : Array Slot) (x : Int32), (∀ j, g j = if j < 144 then -9 else 0) → va_P D vwCl (mW m0 am tm i 0 (updF c0 4 g) (fun _ _ => 0)) H → va_D A (mW m0 am tm i 0 (updF c0 4 g) (fun _ _ => 0)) → va_S A s.heap H locs → lv_has ls 2 [(1, .int x), (0, .ref m0)] → W p l e R s m args below meth c H locs cells slots Q (F0 m 457 ls [])) :
    ∀ (k n : Nat) (x : Int32) (g : Nat → Int32), n ≤ 144 → 144 < n + k → x = nI n → (∀ j, g j = if j < n then -9 else 0) → ∀ (H : Heap) (locs : List Loc) (ls : Array Slot), va_P D vwCl (mW m0 am tm i 0 (updF c0 4 g) (fun _ _ => 0)) H → va_D A (mW m0 am tm i 0 (updF c0 4 g) (fun _ _ => 0)) → va_S A s.heap H locs → lv_has ls 2 [(1, .int x), (0, .ref m0)] → W p l e R s m args below meth c H locs cells slots Q (F0 m 436 ls []) := by
  intro k
  induction k with
  | zero => intro n x g h1 h2; omega
  | succ k ih =>
    intro n x g hin hik ex hg H locs ls hP hD hS hl
    refine lv_iload_n hx hb dX12_init_436 rfl (lv_at hl 0 rfl) ?_
    refine lv_sipush (v := 144) hx hb dX12_init_437 (by decide +kernel) ?_
    refine lv_icmp_ge (tgt := 457) hx hb dX12_init_440 (by decide +kernel) (fun c1 => ?_) (fun c1 => ?_)
    · have hi : n = 144 := by
        rcases Nat.lt_or_ge n 144 with q | q
        · exact absurd (by rw [ex] at c1; exact c1) (nI_ge (b := 144) q (by decide +kernel))
        · omega
      subst hi
      exact kk g H locs ls x hg hP hD hS hl
    · have hi : n < 144 := by
        rcases Nat.lt_or_ge n 144 with q | q
        · exact q
        · exact absurd (by rw [ex]; exact nI_le (a := 144) q (by omega)) c1
      refine lv_aload_n hx hb dX12_init_443 rfl (lv_at hl 1 rfl) ?_
      refine mget_4 hx hb hts (fun _ h => List.mem_cons_of_mem _ (List.mem_append_right _ h)) hown hK hP (hts (.fieldLink RX12 16 "TalePlayModel" "defaults" "[I") (by decide +kernel)) dX12_init_444 ?_
      refine lv_iload_n hx hb dX12_init_447 rfl (lv_at hl 0 rfl) ?_
      refine lv_bipush (v := (-9)) hx hb dX12_init_448 (by decide +kernel) ?_
      refine mst_4 hx hb hK hP hD hS (by rw [ex]; exact vp_in_nI hi (by decide +kernel)) dX12_init_450 (fun H locs hP hD hS => ?_)
      have hP : va_P D vwCl (mW m0 am tm i 0 (updF c0 4 (upd g x.toNatClampNeg (-9))) (fun _ _ => 0)) H := hP
      have hD : va_D A (mW m0 am tm i 0 (updF c0 4 (upd g x.toNatClampNeg (-9))) (fun _ _ => 0)) := hD
      obtain ⟨y, ey⟩ : ∃ y : Int32, y = x + 1 := ⟨_, rfl⟩
      refine lv_iinc (v := y) (lv' := [(1, .int y), (0, .ref m0)]) hx hb dX12_init_451 hl (k := 0) rfl (by rw [ey]; rfl) (by decide +kernel) rfl (fun ls hl => ?_)
      refine lv_goto (tgt := 436) hx hb dX12_init_454 (by decide +kernel) ?_
      refine ih (n + 1) y _ hi (by omega) (by rw [ey, ex]; exact nI_1 n) (fun j => ?_) H locs ls hP hD hS hl
      rw [ex, nI_clamp (by omega)]
      by_cases q : j = n
      · subst q; rw [pk_us, if_pos (by omega)]
      · rw [pk_un q, hg j]
        by_cases z : j < n
        · rw [if_pos z, if_pos (by omega)]
        · rw [if_neg z, if_neg (by omega)]
set_option maxHeartbeats 4000000 in
set_option maxRecDepth 100000 in
theorem k_i_X12_init (l : Launch) (D : va_G) (sz : Nat) (m0 : Nat) : Met l yX12_init wm_i_X12_init ({ frames := 1, cells := 46, slots := 44077, locals := 24 }) (va_Pc [.ref m0] (pB D sz [(m0, .inr (12, [.int 0, .null, .int 0, .null, .null, .int 0, .null, .null, .int 0, .null, .null, .null, .null, .null, .null, .int 0, .int 0, .int 0, .int 0, .int 0, .null, .null, .int 0, .null, .null, .null, .null, .int 0, .null, .null, .null, .null, .null, .int 0, .null, .int 0, .int 0, .long 0, .null, .null, .int 0, .int 0, .int 0, .null, .null, .null, .null, .null, .null, .null, .int 0, .null, .null, .null, .null, .null, .null, .int 0, .int 0, .int 0, .null, .null, .null, .null, .int 0, .null, .null, .null, .null]))] [])) (va_Qv (fun (_ : (Nat → Nat) × (Nat → ClassId)) => True) (oC D (va_A [(m0, .inr (12, [.int 0, .null, .int 0, .null, .null, .int 0, .null, .null, .int 0, .null, .null, .null, .null, .null, .null, .int 0, .int 0, .int 0, .int 0, .int 0, .null, .null, .int 0, .null, .null, .null, .null, .int 0, .null, .null, .null, .null, .null, .int 0, .null, .int 0, .int 0, .long 0, .null, .null, .int 0, .int 0, .int 0, .null, .null, .null, .null, .null, .null, .null, .int 0, .null, .null, .null, .null, .null, .null, .int 0, .int 0, .int 0, .null, .null, .null, .null, .int 0, .null, .null, .null, .null]))] sz) (fun u => mW m0 u.1 u.2 i0M 0 c0M d0M) (fun u => mT u.2)) (va_A [(m0, .inr (12, [.int 0, .null, .int 0, .null, .null, .int 0, .null, .null, .int 0, .null, .null, .null, .null, .null, .null, .int 0, .int 0, .int 0, .int 0, .int 0, .null, .null, .int 0, .null, .null, .null, .null, .int 0, .null, .null, .null, .null, .null, .int 0, .null, .int 0, .int 0, .long 0, .null, .null, .int 0, .int 0, .int 0, .null, .null, .null, .null, .null, .null, .null, .int 0, .null, .null, .null, .null, .null, .null, .int 0, .int 0, .int 0, .null, .null, .null, .null, .int 0, .null, .null, .null, .null]))] sz)) 46 44077 (va_A [(m0, .inr (12, [.int 0, .null, .int 0, .null, .null, .int 0, .null, .null, .int 0, .null, .null, .null, .null, .null, .null, .int 0, .int 0, .int 0, .int 0, .int 0, .null, .null, .int 0, .null, .null, .null, .null, .int 0, .null, .null, .null, .null, .null, .int 0, .null, .int 0, .int 0, .long 0, .null, .null, .int 0, .int 0, .int 0, .null, .null, .null, .null, .null, .null, .null, .int 0, .null, .null, .null, .null, .null, .null, .int 0, .int 0, .int 0, .null, .null, .null, .null, .int 0, .null, .null, .null, .null]))] sz) := by
  refine Met.ofW (cc := cX12_init) (maxL := 2) (ret := none) (by decide +kernel) rfl ?_
  intro p e s m args below meth c s₁ B hml hv
  obtain ⟨rfl, hsz, hP, hK, hD0⟩ := hv
  have hx := B.exec
  have hb := B.bytes
  have hr := B.returns
  have hts := atoms_spec (ws := wm_i_X12_init) B.pre
  have hown : s.vm.findClass RX12 = some m.cls := findClass_of_methodNamed B.named
  have hlocks := B.notSynchronized
  have hin : meth.name = "<init>" := (name_of_methodNamed B.named B.method).1
  subst hsz
  have hD := hD0.self (sz := s.heap.size)
  generalize hAe : va_A [(m0, .inr (12, [.int 0, .null, .int 0, .null, .null, .int 0, .null, .null, .int 0, .null, .null, .null, .null, .null, .null, .int 0, .int 0, .int 0, .int 0, .int 0, .null, .null, .int 0, .null, .null, .null, .null, .int 0, .null, .null, .null, .null, .null, .int 0, .null, .int 0, .int 0, .long 0, .null, .null, .int 0, .int 0, .int 0, .null, .null, .null, .null, .null, .null, .null, .int 0, .null, .null, .null, .null, .null, .null, .int 0, .int 0, .int 0, .null, .null, .null, .null, .int 0, .null, .null, .null, .null]))] s.heap.size = A at hD ⊢
  have hA : ∀ q : Nat, s.heap.size ≤ q → A q := fun q h => by rw [← hAe]; exact Or.inr h
  have hS : va_S A s.heap s.heap [] := va_S.rf
  have hl := lv_entry ([.ref m0]) (n := 2) (Nat.le_of_ble_eq_true rfl)
  rw [lg_entry_eq]
  generalize (lg_sl ([.ref m0]) ++ List.replicate (2 - (lg_sl ([.ref m0])).length) Slot.unset).toArray = ls at hl ⊢
  have hl : lv_has ls 2 [(0, .ref m0)] := hl
  obtain ⟨R0, hR0⟩ : ∃ z : va_W, z = [] := ⟨_, rfl⟩
  obtain ⟨T0, hT0⟩ : ∃ z : List (ClassId × FieldType), z = [] := ⟨_, rfl⟩
  have hP : va_P D vwCl ((m0, .inr (12, [.int 0, .null, .int 0, .null, .null, .int 0, .null, .null, .int 0, .null, .null, .null, .null, .null, .null, .int 0, .int 0, .int 0, .int 0, .int 0, .null, .null, .int 0, .null, .null, .null, .null, .int 0, .null, .null, .null, .null, .null, .int 0, .null, .int 0, .int 0, .long 0, .null, .null, .int 0, .int 0, .int 0, .null, .null, .null, .null, .null, .null, .null, .int 0, .null, .null, .null, .null, .null, .null, .int 0, .int 0, .int 0, .null, .null, .null, .null, .int 0, .null, .null, .null, .null])) :: R0) s.heap := by rw [hR0]; exact hP
  have hD : va_D A ((m0, .inr (12, [.int 0, .null, .int 0, .null, .null, .int 0, .null, .null, .int 0, .null, .null, .null, .null, .null, .null, .int 0, .int 0, .int 0, .int 0, .int 0, .null, .null, .int 0, .null, .null, .null, .null, .int 0, .null, .null, .null, .null, .null, .int 0, .null, .int 0, .int 0, .long 0, .null, .null, .int 0, .int 0, .int 0, .null, .null, .null, .null, .null, .null, .null, .int 0, .null, .null, .null, .null, .null, .null, .int 0, .int 0, .int 0, .null, .null, .null, .null, .int 0, .null, .null, .null, .null])) :: R0) := by rw [hR0]; exact hD
  have hK : va_K D vwCl T0 s := by rw [hT0]; exact hK
  refine lv_aload_n hx hb dX12_init_0 rfl (lv_at hl 0 rfl) ?_
  refine W.objInit hx hb hown (hts (.methodLink RX12 1 objectInit) (List.mem_cons_of_mem _ (List.mem_append_left _ (List.mem_append_left _ (List.mem_of_getElem? (i := 1) rfl))))) (hts (.instanceMethod objectInit) (List.mem_cons_of_mem _ (List.mem_append_left _ (List.mem_append_left _ (List.mem_of_getElem? (i := 2) rfl))))) (hts (.code objectInit ⟨#[0xb1]⟩ 1 none) (by decide +kernel)) rfl (by rw [hml]; exact hl.1) rfl dX12_init_1 (Nat.le_of_ble_eq_true rfl) (Nat.le_of_ble_eq_true rfl) ?_
  refine W.eq (g2 := F0 m 4 ls []) rfl ?_
  refine lv_aload_n hx hb dX12_init_4 rfl (lv_at hl 0 rfl) ?_
  refine lv_bipush (v := 7) hx hb dX12_init_5 (by decide +kernel) ?_
  refine va_newa (atype := .int) (ty := .int) (a0 := (7, .inl (fun _ => 0))) hx hb (hts (.arrayClass .int) (List.mem_cons_of_mem _ (List.mem_append_left _ (List.mem_append_left _ (List.mem_of_getElem? (i := 3) rfl))))) rfl hK hP hD hS hA (fun _ => vp_cell_i _ _ _) (by decide +kernel) (N' := 7) (by decide +kernel) (show 7 * 4 ≤ 536870912 by omega) (Nat.le_of_ble_eq_true rfl) (Nat.le_of_ble_eq_true rfl) dX12_init_7 ?_
  clear hK hP hD hS
  intro q1 cA1 H hK hP hD hS
  refine W.widen (k := 1) (n := 7) (Nat.le_of_ble_eq_true rfl) (Nat.le_of_ble_eq_true rfl) ?_
  replace hP := rotP hP
  replace hD := rotD hD
  replace hK := rotK hK
  obtain ⟨R1, hR1⟩ : ∃ z : va_W, z = (q1, .inl (cA1, 7, .inl (fun _ => 0))) :: R0 := ⟨_, rfl⟩
  obtain ⟨T1, hT1⟩ : ∃ z : List (ClassId × FieldType), z = (cA1, .int) :: T0 := ⟨_, rfl⟩
  rw [← hR1] at hP hD
  rw [← hT1] at hK
  refine va_putF (D := D) (ci := 12) (v := .ref q1) (ty := .array .int) (C := RX12) (T := TX12) (N := 69) hx hb hts (fun _ h => List.mem_cons_of_mem _ (List.mem_append_right _ h)) tyX12 tyX12_ok nmX12 hown hK hP hD hS 0 rfl rfl 1 (by decide +kernel) (hts (.fieldLink RX12 7 "TalePlayModel" "came" "[I") (List.mem_cons_of_mem _ (List.mem_append_left _ (List.mem_append_left _ (List.mem_of_getElem? (i := 4) rfl))))) (fun _ h9 => h9) rfl hin rfl (by decide +kernel) rfl rfl (Nat.le_of_ble_eq_true rfl) dX12_init_9 ?_
  clear hP hD hS
  intro H locs hP hD hS
  replace hP : va_P D vwCl ((m0, .inr (12, [.int 0, .ref q1, .int 0, .null, .null, .int 0, .null, .null, .int 0, .null, .null, .null, .null, .null, .null, .int 0, .int 0, .int 0, .int 0, .int 0, .null, .null, .int 0, .null, .null, .null, .null, .int 0, .null, .null, .null, .null, .null, .int 0, .null, .int 0, .int 0, .long 0, .null, .null, .int 0, .int 0, .int 0, .null, .null, .null, .null, .null, .null, .null, .int 0, .null, .null, .null, .null, .null, .null, .int 0, .int 0, .int 0, .null, .null, .null, .null, .int 0, .null, .null, .null, .null])) :: R1) H := hP
  replace hD : va_D A ((m0, .inr (12, [.int 0, .ref q1, .int 0, .null, .null, .int 0, .null, .null, .int 0, .null, .null, .null, .null, .null, .null, .int 0, .int 0, .int 0, .int 0, .int 0, .null, .null, .int 0, .null, .null, .null, .null, .int 0, .null, .null, .null, .null, .null, .int 0, .null, .int 0, .int 0, .long 0, .null, .null, .int 0, .int 0, .int 0, .null, .null, .null, .null, .null, .null, .null, .int 0, .null, .null, .null, .null, .null, .null, .int 0, .int 0, .int 0, .null, .null, .null, .null, .int 0, .null, .null, .null, .null])) :: R1) := hD
  refine lv_aload_n hx hb dX12_init_12 rfl (lv_at hl 0 rfl) ?_
  refine lv_bipush (v := 24) hx hb dX12_init_13 (by decide +kernel) ?_
  refine va_newa (atype := .int) (ty := .int) (a0 := (24, .inl (fun _ => 0))) hx hb (hts (.arrayClass .int) (List.mem_cons_of_mem _ (List.mem_append_left _ (List.mem_append_left _ (List.mem_of_getElem? (i := 3) rfl))))) rfl hK hP hD hS hA (fun _ => vp_cell_i _ _ _) (by decide +kernel) (N' := 24) (by decide +kernel) (show 24 * 4 ≤ 536870912 by omega) (Nat.le_of_ble_eq_true rfl) (Nat.le_of_ble_eq_true rfl) dX12_init_15 ?_
  clear hK hP hD hS
  intro q2 cA2 H hK hP hD hS
  refine W.widen (k := 2) (n := 31) (Nat.le_of_ble_eq_true rfl) (Nat.le_of_ble_eq_true rfl) ?_
  replace hP := rotP hP
  replace hD := rotD hD
  replace hK := rotK hK
  obtain ⟨R2, hR2⟩ : ∃ z : va_W, z = (q2, .inl (cA2, 24, .inl (fun _ => 0))) :: R1 := ⟨_, rfl⟩
  obtain ⟨T2, hT2⟩ : ∃ z : List (ClassId × FieldType), z = (cA2, .int) :: T1 := ⟨_, rfl⟩
  rw [← hR2] at hP hD
  rw [← hT2] at hK
  refine va_putF (D := D) (ci := 12) (v := .ref q2) (ty := .array .int) (C := RX12) (T := TX12) (N := 69) hx hb hts (fun _ h => List.mem_cons_of_mem _ (List.mem_append_right _ h)) tyX12 tyX12_ok nmX12 hown hK hP hD hS 0 rfl rfl 3 (by decide +kernel) (hts (.fieldLink RX12 13 "TalePlayModel" "parentOf" "[I") (List.mem_cons_of_mem _ (List.mem_append_left _ (List.mem_append_left _ (List.mem_of_getElem? (i := 5) rfl))))) (fun _ h9 => h9) rfl hin rfl (by decide +kernel) rfl rfl (Nat.le_of_ble_eq_true rfl) dX12_init_17 ?_
  clear hP hD hS
  intro H locs hP hD hS
  replace hP : va_P D vwCl ((m0, .inr (12, [.int 0, .ref q1, .int 0, .ref q2, .null, .int 0, .null, .null, .int 0, .null, .null, .null, .null, .null, .null, .int 0, .int 0, .int 0, .int 0, .int 0, .null, .null, .int 0, .null, .null, .null, .null, .int 0, .null, .null, .null, .null, .null, .int 0, .null, .int 0, .int 0, .long 0, .null, .null, .int 0, .int 0, .int 0, .null, .null, .null, .null, .null, .null, .null, .int 0, .null, .null, .null, .null, .null, .null, .int 0, .int 0, .int 0, .null, .null, .null, .null, .int 0, .null, .null, .null, .null])) :: R2) H := hP
  replace hD : va_D A ((m0, .inr (12, [.int 0, .ref q1, .int 0, .ref q2, .null, .int 0, .null, .null, .int 0, .null, .null, .null, .null, .null, .null, .int 0, .int 0, .int 0, .int 0, .int 0, .null, .null, .int 0, .null, .null, .null, .null, .int 0, .null, .null, .null, .null, .null, .int 0, .null, .int 0, .int 0, .long 0, .null, .null, .int 0, .int 0, .int 0, .null, .null, .null, .null, .null, .null, .null, .int 0, .null, .null, .null, .null, .null, .null, .int 0, .int 0, .int 0, .null, .null, .null, .null, .int 0, .null, .null, .null, .null])) :: R2) := hD
  refine lv_aload_n hx hb dX12_init_20 rfl (lv_at hl 0 rfl) ?_
  refine lv_sipush (v := 144) hx hb dX12_init_21 (by decide +kernel) ?_
  refine va_newa (atype := .int) (ty := .int) (a0 := (144, .inl (fun _ => 0))) hx hb (hts (.arrayClass .int) (List.mem_cons_of_mem _ (List.mem_append_left _ (List.mem_append_left _ (List.mem_of_getElem? (i := 3) rfl))))) rfl hK hP hD hS hA (fun _ => vp_cell_i _ _ _) (by decide +kernel) (N' := 144) (by decide +kernel) (show 144 * 4 ≤ 536870912 by omega) (Nat.le_of_ble_eq_true rfl) (Nat.le_of_ble_eq_true rfl) dX12_init_24 ?_
  clear hK hP hD hS
  intro q3 cA3 H hK hP hD hS
  refine W.widen (k := 3) (n := 175) (Nat.le_of_ble_eq_true rfl) (Nat.le_of_ble_eq_true rfl) ?_
  replace hP := rotP hP
  replace hD := rotD hD
  replace hK := rotK hK
  obtain ⟨R3, hR3⟩ : ∃ z : va_W, z = (q3, .inl (cA3, 144, .inl (fun _ => 0))) :: R2 := ⟨_, rfl⟩
  obtain ⟨T3, hT3⟩ : ∃ z : List (ClassId × FieldType), z = (cA3, .int) :: T2 := ⟨_, rfl⟩
  rw [← hR3] at hP hD
  rw [← hT3] at hK
  refine va_putF (D := D) (ci := 12) (v := .ref q3) (ty := .array .int) (C := RX12) (T := TX12) (N := 69) hx hb hts (fun _ h => List.mem_cons_of_mem _ (List.mem_append_right _ h)) tyX12 tyX12_ok nmX12 hown hK hP hD hS 0 rfl rfl 4 (by decide +kernel) (hts (.fieldLink RX12 16 "TalePlayModel" "defaults" "[I") (List.mem_cons_of_mem _ (List.mem_append_left _ (List.mem_append_left _ (List.mem_of_getElem? (i := 6) rfl))))) (fun _ h9 => h9) rfl hin rfl (by decide +kernel) rfl rfl (Nat.le_of_ble_eq_true rfl) dX12_init_26 ?_
  clear hP hD hS
  intro H locs hP hD hS
  replace hP : va_P D vwCl ((m0, .inr (12, [.int 0, .ref q1, .int 0, .ref q2, .ref q3, .int 0, .null, .null, .int 0, .null, .null, .null, .null, .null, .null, .int 0, .int 0, .int 0, .int 0, .int 0, .null, .null, .int 0, .null, .null, .null, .null, .int 0, .null, .null, .null, .null, .null, .int 0, .null, .int 0, .int 0, .long 0, .null, .null, .int 0, .int 0, .int 0, .null, .null, .null, .null, .null, .null, .null, .int 0, .null, .null, .null, .null, .null, .null, .int 0, .int 0, .int 0, .null, .null, .null, .null, .int 0, .null, .null, .null, .null])) :: R3) H := hP
  replace hD : va_D A ((m0, .inr (12, [.int 0, .ref q1, .int 0, .ref q2, .ref q3, .int 0, .null, .null, .int 0, .null, .null, .null, .null, .null, .null, .int 0, .int 0, .int 0, .int 0, .int 0, .null, .null, .int 0, .null, .null, .null, .null, .int 0, .null, .null, .null, .null, .null, .int 0, .null, .int 0, .int 0, .long 0, .null, .null, .int 0, .int 0, .int 0, .null, .null, .null, .null, .null, .null, .null, .int 0, .null, .null, .null, .null, .null, .null, .int 0, .int 0, .int 0, .null, .null, .null, .null, .int 0, .null, .null, .null, .null])) :: R3) := hD
  refine lv_aload_n hx hb dX12_init_29 rfl (lv_at hl 0 rfl) ?_
  refine lv_bipush (v := 30) hx hb dX12_init_30 (by decide +kernel) ?_
  refine va_newa (atype := .int) (ty := .int) (a0 := (30, .inl (fun _ => 0))) hx hb (hts (.arrayClass .int) (List.mem_cons_of_mem _ (List.mem_append_left _ (List.mem_append_left _ (List.mem_of_getElem? (i := 3) rfl))))) rfl hK hP hD hS hA (fun _ => vp_cell_i _ _ _) (by decide +kernel) (N' := 30) (by decide +kernel) (show 30 * 4 ≤ 536870912 by omega) (Nat.le_of_ble_eq_true rfl) (Nat.le_of_ble_eq_true rfl) dX12_init_32 ?_
  clear hK hP hD hS
  intro q4 cA4 H hK hP hD hS
  refine W.widen (k := 4) (n := 205) (Nat.le_of_ble_eq_true rfl) (Nat.le_of_ble_eq_true rfl) ?_
  replace hP := rotP hP
  replace hD := rotD hD
  replace hK := rotK hK
  obtain ⟨R4, hR4⟩ : ∃ z : va_W, z = (q4, .inl (cA4, 30, .inl (fun _ => 0))) :: R3 := ⟨_, rfl⟩
  obtain ⟨T4, hT4⟩ : ∃ z : List (ClassId × FieldType), z = (cA4, .int) :: T3 := ⟨_, rfl⟩
  rw [← hR4] at hP hD
  rw [← hT4] at hK
  refine va_putF (D := D) (ci := 12) (v := .ref q4) (ty := .array .int) (C := RX12) (T := TX12) (N := 69) hx hb hts (fun _ h => List.mem_cons_of_mem _ (List.mem_append_right _ h)) tyX12 tyX12_ok nmX12 hown hK hP hD hS 0 rfl rfl 6 (by decide +kernel) (hts (.fieldLink RX12 19 "TalePlayModel" "kindOf" "[I") (List.mem_cons_of_mem _ (List.mem_append_left _ (List.mem_append_left _ (List.mem_of_getElem? (i := 7) rfl))))) (fun _ h9 => h9) rfl hin rfl (by decide +kernel) rfl rfl (Nat.le_of_ble_eq_true rfl) dX12_init_34 ?_
  clear hP hD hS
  intro H locs hP hD hS
  replace hP : va_P D vwCl ((m0, .inr (12, [.int 0, .ref q1, .int 0, .ref q2, .ref q3, .int 0, .ref q4, .null, .int 0, .null, .null, .null, .null, .null, .null, .int 0, .int 0, .int 0, .int 0, .int 0, .null, .null, .int 0, .null, .null, .null, .null, .int 0, .null, .null, .null, .null, .null, .int 0, .null, .int 0, .int 0, .long 0, .null, .null, .int 0, .int 0, .int 0, .null, .null, .null, .null, .null, .null, .null, .int 0, .null, .null, .null, .null, .null, .null, .int 0, .int 0, .int 0, .null, .null, .null, .null, .int 0, .null, .null, .null, .null])) :: R4) H := hP
  replace hD : va_D A ((m0, .inr (12, [.int 0, .ref q1, .int 0, .ref q2, .ref q3, .int 0, .ref q4, .null, .int 0, .null, .null, .null, .null, .null, .null, .int 0, .int 0, .int 0, .int 0, .int 0, .null, .null, .int 0, .null, .null, .null, .null, .int 0, .null, .null, .null, .null, .null, .int 0, .null, .int 0, .int 0, .long 0, .null, .null, .int 0, .int 0, .int 0, .null, .null, .null, .null, .null, .null, .null, .int 0, .null, .null, .null, .null, .null, .null, .int 0, .int 0, .int 0, .null, .null, .null, .null, .int 0, .null, .null, .null, .null])) :: R4) := hD
  refine lv_aload_n hx hb dX12_init_37 rfl (lv_at hl 0 rfl) ?_
  refine lv_bipush (v := 30) hx hb dX12_init_38 (by decide +kernel) ?_
  refine va_newa (atype := .int) (ty := .int) (a0 := (30, .inl (fun _ => 0))) hx hb (hts (.arrayClass .int) (List.mem_cons_of_mem _ (List.mem_append_left _ (List.mem_append_left _ (List.mem_of_getElem? (i := 3) rfl))))) rfl hK hP hD hS hA (fun _ => vp_cell_i _ _ _) (by decide +kernel) (N' := 30) (by decide +kernel) (show 30 * 4 ≤ 536870912 by omega) (Nat.le_of_ble_eq_true rfl) (Nat.le_of_ble_eq_true rfl) dX12_init_40 ?_
  clear hK hP hD hS
  intro q5 cA5 H hK hP hD hS
  refine W.widen (k := 5) (n := 235) (Nat.le_of_ble_eq_true rfl) (Nat.le_of_ble_eq_true rfl) ?_
  replace hP := rotP hP
  replace hD := rotD hD
  replace hK := rotK hK
  obtain ⟨R5, hR5⟩ : ∃ z : va_W, z = (q5, .inl (cA5, 30, .inl (fun _ => 0))) :: R4 := ⟨_, rfl⟩
  obtain ⟨T5, hT5⟩ : ∃ z : List (ClassId × FieldType), z = (cA5, .int) :: T4 := ⟨_, rfl⟩
  rw [← hR5] at hP hD
  rw [← hT5] at hK
  refine va_putF (D := D) (ci := 12) (v := .ref q5) (ty := .array .int) (C := RX12) (T := TX12) (N := 69) hx hb hts (fun _ h => List.mem_cons_of_mem _ (List.mem_append_right _ h)) tyX12 tyX12_ok nmX12 hown hK hP hD hS 0 rfl rfl 7 (by decide +kernel) (hts (.fieldLink RX12 22 "TalePlayModel" "sizeOf" "[I") (List.mem_cons_of_mem _ (List.mem_append_left _ (List.mem_append_left _ (List.mem_of_getElem? (i := 8) rfl))))) (fun _ h9 => h9) rfl hin rfl (by decide +kernel) rfl rfl (Nat.le_of_ble_eq_true rfl) dX12_init_42 ?_
  clear hP hD hS
  intro H locs hP hD hS
  replace hP : va_P D vwCl ((m0, .inr (12, [.int 0, .ref q1, .int 0, .ref q2, .ref q3, .int 0, .ref q4, .ref q5, .int 0, .null, .null, .null, .null, .null, .null, .int 0, .int 0, .int 0, .int 0, .int 0, .null, .null, .int 0, .null, .null, .null, .null, .int 0, .null, .null, .null, .null, .null, .int 0, .null, .int 0, .int 0, .long 0, .null, .null, .int 0, .int 0, .int 0, .null, .null, .null, .null, .null, .null, .null, .int 0, .null, .null, .null, .null, .null, .null, .int 0, .int 0, .int 0, .null, .null, .null, .null, .int 0, .null, .null, .null, .null])) :: R5) H := hP
  replace hD : va_D A ((m0, .inr (12, [.int 0, .ref q1, .int 0, .ref q2, .ref q3, .int 0, .ref q4, .ref q5, .int 0, .null, .null, .null, .null, .null, .null, .int 0, .int 0, .int 0, .int 0, .int 0, .null, .null, .int 0, .null, .null, .null, .null, .int 0, .null, .null, .null, .null, .null, .int 0, .null, .int 0, .int 0, .long 0, .null, .null, .int 0, .int 0, .int 0, .null, .null, .null, .null, .null, .null, .null, .int 0, .null, .null, .null, .null, .null, .null, .int 0, .int 0, .int 0, .null, .null, .null, .null, .int 0, .null, .null, .null, .null])) :: R5) := hD
  refine lv_aload_n hx hb dX12_init_45 rfl (lv_at hl 0 rfl) ?_
  refine lv_sipush (v := 200) hx hb dX12_init_46 (by decide +kernel) ?_
  refine va_newa (atype := .int) (ty := .int) (a0 := (200, .inl (fun _ => 0))) hx hb (hts (.arrayClass .int) (List.mem_cons_of_mem _ (List.mem_append_left _ (List.mem_append_left _ (List.mem_of_getElem? (i := 3) rfl))))) rfl hK hP hD hS hA (fun _ => vp_cell_i _ _ _) (by decide +kernel) (N' := 200) (by decide +kernel) (show 200 * 4 ≤ 536870912 by omega) (Nat.le_of_ble_eq_true rfl) (Nat.le_of_ble_eq_true rfl) dX12_init_49 ?_
  clear hK hP hD hS
  intro q6 cA6 H hK hP hD hS
  refine W.widen (k := 6) (n := 435) (Nat.le_of_ble_eq_true rfl) (Nat.le_of_ble_eq_true rfl) ?_
  replace hP := rotP hP
  replace hD := rotD hD
  replace hK := rotK hK
  obtain ⟨R6, hR6⟩ : ∃ z : va_W, z = (q6, .inl (cA6, 200, .inl (fun _ => 0))) :: R5 := ⟨_, rfl⟩
  obtain ⟨T6, hT6⟩ : ∃ z : List (ClassId × FieldType), z = (cA6, .int) :: T5 := ⟨_, rfl⟩
  rw [← hR6] at hP hD
  rw [← hT6] at hK
  refine va_putF (D := D) (ci := 12) (v := .ref q6) (ty := .array .int) (C := RX12) (T := TX12) (N := 69) hx hb hts (fun _ h => List.mem_cons_of_mem _ (List.mem_append_right _ h)) tyX12 tyX12_ok nmX12 hown hK hP hD hS 0 rfl rfl 9 (by decide +kernel) (hts (.fieldLink RX12 25 "TalePlayModel" "form" "[I") (List.mem_cons_of_mem _ (List.mem_append_left _ (List.mem_append_left _ (List.mem_of_getElem? (i := 9) rfl))))) (fun _ h9 => h9) rfl hin rfl (by decide +kernel) rfl rfl (Nat.le_of_ble_eq_true rfl) dX12_init_51 ?_
  clear hP hD hS
  intro H locs hP hD hS
  replace hP : va_P D vwCl ((m0, .inr (12, [.int 0, .ref q1, .int 0, .ref q2, .ref q3, .int 0, .ref q4, .ref q5, .int 0, .ref q6, .null, .null, .null, .null, .null, .int 0, .int 0, .int 0, .int 0, .int 0, .null, .null, .int 0, .null, .null, .null, .null, .int 0, .null, .null, .null, .null, .null, .int 0, .null, .int 0, .int 0, .long 0, .null, .null, .int 0, .int 0, .int 0, .null, .null, .null, .null, .null, .null, .null, .int 0, .null, .null, .null, .null, .null, .null, .int 0, .int 0, .int 0, .null, .null, .null, .null, .int 0, .null, .null, .null, .null])) :: R6) H := hP
  replace hD : va_D A ((m0, .inr (12, [.int 0, .ref q1, .int 0, .ref q2, .ref q3, .int 0, .ref q4, .ref q5, .int 0, .ref q6, .null, .null, .null, .null, .null, .int 0, .int 0, .int 0, .int 0, .int 0, .null, .null, .int 0, .null, .null, .null, .null, .int 0, .null, .null, .null, .null, .null, .int 0, .null, .int 0, .int 0, .long 0, .null, .null, .int 0, .int 0, .int 0, .null, .null, .null, .null, .null, .null, .null, .int 0, .null, .null, .null, .null, .null, .null, .int 0, .int 0, .int 0, .null, .null, .null, .null, .int 0, .null, .null, .null, .null])) :: R6) := hD
  refine lv_aload_n hx hb dX12_init_54 rfl (lv_at hl 0 rfl) ?_
  refine lv_sipush (v := 200) hx hb dX12_init_55 (by decide +kernel) ?_
  refine va_newa (atype := .int) (ty := .int) (a0 := (200, .inl (fun _ => 0))) hx hb (hts (.arrayClass .int) (List.mem_cons_of_mem _ (List.mem_append_left _ (List.mem_append_left _ (List.mem_of_getElem? (i := 3) rfl))))) rfl hK hP hD hS hA (fun _ => vp_cell_i _ _ _) (by decide +kernel) (N' := 200) (by decide +kernel) (show 200 * 4 ≤ 536870912 by omega) (Nat.le_of_ble_eq_true rfl) (Nat.le_of_ble_eq_true rfl) dX12_init_58 ?_
  clear hK hP hD hS
  intro q7 cA7 H hK hP hD hS
  refine W.widen (k := 7) (n := 635) (Nat.le_of_ble_eq_true rfl) (Nat.le_of_ble_eq_true rfl) ?_
  replace hP := rotP hP
  replace hD := rotD hD
  replace hK := rotK hK
  obtain ⟨R7, hR7⟩ : ∃ z : va_W, z = (q7, .inl (cA7, 200, .inl (fun _ => 0))) :: R6 := ⟨_, rfl⟩
  obtain ⟨T7, hT7⟩ : ∃ z : List (ClassId × FieldType), z = (cA7, .int) :: T6 := ⟨_, rfl⟩
  rw [← hR7] at hP hD
  rw [← hT7] at hK
  refine va_putF (D := D) (ci := 12) (v := .ref q7) (ty := .array .int) (C := RX12) (T := TX12) (N := 69) hx hb hts (fun _ h => List.mem_cons_of_mem _ (List.mem_append_right _ h)) tyX12 tyX12_ok nmX12 hown hK hP hD hS 0 rfl rfl 10 (by decide +kernel) (hts (.fieldLink RX12 28 "TalePlayModel" "left" "[I") (List.mem_cons_of_mem _ (List.mem_append_left _ (List.mem_append_left _ (List.mem_of_getElem? (i := 10) rfl))))) (fun _ h9 => h9) rfl hin rfl (by decide +kernel) rfl rfl (Nat.le_of_ble_eq_true rfl) dX12_init_60 ?_
  clear hP hD hS
  intro H locs hP hD hS
  replace hP : va_P D vwCl ((m0, .inr (12, [.int 0, .ref q1, .int 0, .ref q2, .ref q3, .int 0, .ref q4, .ref q5, .int 0, .ref q6, .ref q7, .null, .null, .null, .null, .int 0, .int 0, .int 0, .int 0, .int 0, .null, .null, .int 0, .null, .null, .null, .null, .int 0, .null, .null, .null, .null, .null, .int 0, .null, .int 0, .int 0, .long 0, .null, .null, .int 0, .int 0, .int 0, .null, .null, .null, .null, .null, .null, .null, .int 0, .null, .null, .null, .null, .null, .null, .int 0, .int 0, .int 0, .null, .null, .null, .null, .int 0, .null, .null, .null, .null])) :: R7) H := hP
  replace hD : va_D A ((m0, .inr (12, [.int 0, .ref q1, .int 0, .ref q2, .ref q3, .int 0, .ref q4, .ref q5, .int 0, .ref q6, .ref q7, .null, .null, .null, .null, .int 0, .int 0, .int 0, .int 0, .int 0, .null, .null, .int 0, .null, .null, .null, .null, .int 0, .null, .null, .null, .null, .null, .int 0, .null, .int 0, .int 0, .long 0, .null, .null, .int 0, .int 0, .int 0, .null, .null, .null, .null, .null, .null, .null, .int 0, .null, .null, .null, .null, .null, .null, .int 0, .int 0, .int 0, .null, .null, .null, .null, .int 0, .null, .null, .null, .null])) :: R7) := hD
  refine lv_aload_n hx hb dX12_init_63 rfl (lv_at hl 0 rfl) ?_
  refine lv_sipush (v := 200) hx hb dX12_init_64 (by decide +kernel) ?_
  refine va_newa (atype := .int) (ty := .int) (a0 := (200, .inl (fun _ => 0))) hx hb (hts (.arrayClass .int) (List.mem_cons_of_mem _ (List.mem_append_left _ (List.mem_append_left _ (List.mem_of_getElem? (i := 3) rfl))))) rfl hK hP hD hS hA (fun _ => vp_cell_i _ _ _) (by decide +kernel) (N' := 200) (by decide +kernel) (show 200 * 4 ≤ 536870912 by omega) (Nat.le_of_ble_eq_true rfl) (Nat.le_of_ble_eq_true rfl) dX12_init_67 ?_
  clear hK hP hD hS
  intro q8 cA8 H hK hP hD hS
  refine W.widen (k := 8) (n := 835) (Nat.le_of_ble_eq_true rfl) (Nat.le_of_ble_eq_true rfl) ?_
  replace hP := rotP hP
  replace hD := rotD hD
  replace hK := rotK hK
  obtain ⟨R8, hR8⟩ : ∃ z : va_W, z = (q8, .inl (cA8, 200, .inl (fun _ => 0))) :: R7 := ⟨_, rfl⟩
  obtain ⟨T8, hT8⟩ : ∃ z : List (ClassId × FieldType), z = (cA8, .int) :: T7 := ⟨_, rfl⟩
  rw [← hR8] at hP hD
  rw [← hT8] at hK
  refine va_putF (D := D) (ci := 12) (v := .ref q8) (ty := .array .int) (C := RX12) (T := TX12) (N := 69) hx hb hts (fun _ h => List.mem_cons_of_mem _ (List.mem_append_right _ h)) tyX12 tyX12_ok nmX12 hown hK hP hD hS 0 rfl rfl 11 (by decide +kernel) (hts (.fieldLink RX12 31 "TalePlayModel" "middle" "[I") (List.mem_cons_of_mem _ (List.mem_append_left _ (List.mem_append_left _ (List.mem_of_getElem? (i := 11) rfl))))) (fun _ h9 => h9) rfl hin rfl (by decide +kernel) rfl rfl (Nat.le_of_ble_eq_true rfl) dX12_init_69 ?_
  clear hP hD hS
  intro H locs hP hD hS
  replace hP : va_P D vwCl ((m0, .inr (12, [.int 0, .ref q1, .int 0, .ref q2, .ref q3, .int 0, .ref q4, .ref q5, .int 0, .ref q6, .ref q7, .ref q8, .null, .null, .null, .int 0, .int 0, .int 0, .int 0, .int 0, .null, .null, .int 0, .null, .null, .null, .null, .int 0, .null, .null, .null, .null, .null, .int 0, .null, .int 0, .int 0, .long 0, .null, .null, .int 0, .int 0, .int 0, .null, .null, .null, .null, .null, .null, .null, .int 0, .null, .null, .null, .null, .null, .null, .int 0, .int 0, .int 0, .null, .null, .null, .null, .int 0, .null, .null, .null, .null])) :: R8) H := hP
  replace hD : va_D A ((m0, .inr (12, [.int 0, .ref q1, .int 0, .ref q2, .ref q3, .int 0, .ref q4, .ref q5, .int 0, .ref q6, .ref q7, .ref q8, .null, .null, .null, .int 0, .int 0, .int 0, .int 0, .int 0, .null, .null, .int 0, .null, .null, .null, .null, .int 0, .null, .null, .null, .null, .null, .int 0, .null, .int 0, .int 0, .long 0, .null, .null, .int 0, .int 0, .int 0, .null, .null, .null, .null, .null, .null, .null, .int 0, .null, .null, .null, .null, .null, .null, .int 0, .int 0, .int 0, .null, .null, .null, .null, .int 0, .null, .null, .null, .null])) :: R8) := hD
  refine lv_aload_n hx hb dX12_init_72 rfl (lv_at hl 0 rfl) ?_
  refine lv_sipush (v := 200) hx hb dX12_init_73 (by decide +kernel) ?_
  refine va_newa (atype := .int) (ty := .int) (a0 := (200, .inl (fun _ => 0))) hx hb (hts (.arrayClass .int) (List.mem_cons_of_mem _ (List.mem_append_left _ (List.mem_append_left _ (List.mem_of_getElem? (i := 3) rfl))))) rfl hK hP hD hS hA (fun _ => vp_cell_i _ _ _) (by decide +kernel) (N' := 200) (by decide +kernel) (show 200 * 4 ≤ 536870912 by omega) (Nat.le_of_ble_eq_true rfl) (Nat.le_of_ble_eq_true rfl) dX12_init_76 ?_
  clear hK hP hD hS
  intro q9 cA9 H hK hP hD hS
  refine W.widen (k := 9) (n := 1035) (Nat.le_of_ble_eq_true rfl) (Nat.le_of_ble_eq_true rfl) ?_
  replace hP := rotP hP
  replace hD := rotD hD
  replace hK := rotK hK
  obtain ⟨R9, hR9⟩ : ∃ z : va_W, z = (q9, .inl (cA9, 200, .inl (fun _ => 0))) :: R8 := ⟨_, rfl⟩
  obtain ⟨T9, hT9⟩ : ∃ z : List (ClassId × FieldType), z = (cA9, .int) :: T8 := ⟨_, rfl⟩
  rw [← hR9] at hP hD
  rw [← hT9] at hK
  refine va_putF (D := D) (ci := 12) (v := .ref q9) (ty := .array .int) (C := RX12) (T := TX12) (N := 69) hx hb hts (fun _ h => List.mem_cons_of_mem _ (List.mem_append_right _ h)) tyX12 tyX12_ok nmX12 hown hK hP hD hS 0 rfl rfl 12 (by decide +kernel) (hts (.fieldLink RX12 34 "TalePlayModel" "right" "[I") (List.mem_cons_of_mem _ (List.mem_append_left _ (List.mem_append_left _ (List.mem_of_getElem? (i := 12) rfl))))) (fun _ h9 => h9) rfl hin rfl (by decide +kernel) rfl rfl (Nat.le_of_ble_eq_true rfl) dX12_init_78 ?_
  clear hP hD hS
  intro H locs hP hD hS
  replace hP : va_P D vwCl ((m0, .inr (12, [.int 0, .ref q1, .int 0, .ref q2, .ref q3, .int 0, .ref q4, .ref q5, .int 0, .ref q6, .ref q7, .ref q8, .ref q9, .null, .null, .int 0, .int 0, .int 0, .int 0, .int 0, .null, .null, .int 0, .null, .null, .null, .null, .int 0, .null, .null, .null, .null, .null, .int 0, .null, .int 0, .int 0, .long 0, .null, .null, .int 0, .int 0, .int 0, .null, .null, .null, .null, .null, .null, .null, .int 0, .null, .null, .null, .null, .null, .null, .int 0, .int 0, .int 0, .null, .null, .null, .null, .int 0, .null, .null, .null, .null])) :: R9) H := hP
  replace hD : va_D A ((m0, .inr (12, [.int 0, .ref q1, .int 0, .ref q2, .ref q3, .int 0, .ref q4, .ref q5, .int 0, .ref q6, .ref q7, .ref q8, .ref q9, .null, .null, .int 0, .int 0, .int 0, .int 0, .int 0, .null, .null, .int 0, .null, .null, .null, .null, .int 0, .null, .null, .null, .null, .null, .int 0, .null, .int 0, .int 0, .long 0, .null, .null, .int 0, .int 0, .int 0, .null, .null, .null, .null, .null, .null, .null, .int 0, .null, .null, .null, .null, .null, .null, .int 0, .int 0, .int 0, .null, .null, .null, .null, .int 0, .null, .null, .null, .null])) :: R9) := hD
  refine lv_aload_n hx hb dX12_init_81 rfl (lv_at hl 0 rfl) ?_
  refine lv_sipush (v := 200) hx hb dX12_init_82 (by decide +kernel) ?_
  refine va_newa (atype := .boolean) (ty := .boolean) (a0 := (200, .inl (fun _ => 0))) hx hb (hts (.arrayClass .boolean) (List.mem_cons_of_mem _ (List.mem_append_left _ (List.mem_append_left _ (List.mem_of_getElem? (i := 13) rfl))))) rfl hK hP hD hS hA (fun _ => vp_cell_i _ _ _) (by decide +kernel) (N' := 200) (by decide +kernel) (show 200 * 1 ≤ 536870912 by omega) (Nat.le_of_ble_eq_true rfl) (Nat.le_of_ble_eq_true rfl) dX12_init_85 ?_
  clear hK hP hD hS
  intro q10 cA10 H hK hP hD hS
  refine W.widen (k := 10) (n := 1235) (Nat.le_of_ble_eq_true rfl) (Nat.le_of_ble_eq_true rfl) ?_
  replace hP := rotP hP
  replace hD := rotD hD
  replace hK := rotK hK
  obtain ⟨R10, hR10⟩ : ∃ z : va_W, z = (q10, .inl (cA10, 200, .inl (fun _ => 0))) :: R9 := ⟨_, rfl⟩
  obtain ⟨T10, hT10⟩ : ∃ z : List (ClassId × FieldType), z = (cA10, .boolean) :: T9 := ⟨_, rfl⟩
  rw [← hR10] at hP hD
  rw [← hT10] at hK
  refine va_putF (D := D) (ci := 12) (v := .ref q10) (ty := .array .boolean) (C := RX12) (T := TX12) (N := 69) hx hb hts (fun _ h => List.mem_cons_of_mem _ (List.mem_append_right _ h)) tyX12 tyX12_ok nmX12 hown hK hP hD hS 0 rfl rfl 13 (by decide +kernel) (hts (.fieldLink RX12 37 "TalePlayModel" "isSaid" "[Z") (List.mem_cons_of_mem _ (List.mem_append_left _ (List.mem_append_left _ (List.mem_of_getElem? (i := 14) rfl))))) (fun _ h9 => h9) rfl hin rfl (by decide +kernel) rfl rfl (Nat.le_of_ble_eq_true rfl) dX12_init_87 ?_
  clear hP hD hS
  intro H locs hP hD hS
  replace hP : va_P D vwCl ((m0, .inr (12, [.int 0, .ref q1, .int 0, .ref q2, .ref q3, .int 0, .ref q4, .ref q5, .int 0, .ref q6, .ref q7, .ref q8, .ref q9, .ref q10, .null, .int 0, .int 0, .int 0, .int 0, .int 0, .null, .null, .int 0, .null, .null, .null, .null, .int 0, .null, .null, .null, .null, .null, .int 0, .null, .int 0, .int 0, .long 0, .null, .null, .int 0, .int 0, .int 0, .null, .null, .null, .null, .null, .null, .null, .int 0, .null, .null, .null, .null, .null, .null, .int 0, .int 0, .int 0, .null, .null, .null, .null, .int 0, .null, .null, .null, .null])) :: R10) H := hP
  replace hD : va_D A ((m0, .inr (12, [.int 0, .ref q1, .int 0, .ref q2, .ref q3, .int 0, .ref q4, .ref q5, .int 0, .ref q6, .ref q7, .ref q8, .ref q9, .ref q10, .null, .int 0, .int 0, .int 0, .int 0, .int 0, .null, .null, .int 0, .null, .null, .null, .null, .int 0, .null, .null, .null, .null, .null, .int 0, .null, .int 0, .int 0, .long 0, .null, .null, .int 0, .int 0, .int 0, .null, .null, .null, .null, .null, .null, .null, .int 0, .null, .null, .null, .null, .null, .null, .int 0, .int 0, .int 0, .null, .null, .null, .null, .int 0, .null, .null, .null, .null])) :: R10) := hD
  refine lv_aload_n hx hb dX12_init_90 rfl (lv_at hl 0 rfl) ?_
  refine lv_sipush (v := 200) hx hb dX12_init_91 (by decide +kernel) ?_
  refine va_newa (atype := .int) (ty := .int) (a0 := (200, .inl (fun _ => 0))) hx hb (hts (.arrayClass .int) (List.mem_cons_of_mem _ (List.mem_append_left _ (List.mem_append_left _ (List.mem_of_getElem? (i := 3) rfl))))) rfl hK hP hD hS hA (fun _ => vp_cell_i _ _ _) (by decide +kernel) (N' := 200) (by decide +kernel) (show 200 * 4 ≤ 536870912 by omega) (Nat.le_of_ble_eq_true rfl) (Nat.le_of_ble_eq_true rfl) dX12_init_94 ?_
  clear hK hP hD hS
  intro q11 cA11 H hK hP hD hS
  refine W.widen (k := 11) (n := 1435) (Nat.le_of_ble_eq_true rfl) (Nat.le_of_ble_eq_true rfl) ?_
  replace hP := rotP hP
  replace hD := rotD hD
  replace hK := rotK hK
  obtain ⟨R11, hR11⟩ : ∃ z : va_W, z = (q11, .inl (cA11, 200, .inl (fun _ => 0))) :: R10 := ⟨_, rfl⟩
  obtain ⟨T11, hT11⟩ : ∃ z : List (ClassId × FieldType), z = (cA11, .int) :: T10 := ⟨_, rfl⟩
  rw [← hR11] at hP hD
  rw [← hT11] at hK
  refine va_putF (D := D) (ci := 12) (v := .ref q11) (ty := .array .int) (C := RX12) (T := TX12) (N := 69) hx hb hts (fun _ h => List.mem_cons_of_mem _ (List.mem_append_right _ h)) tyX12 tyX12_ok nmX12 hown hK hP hD hS 0 rfl rfl 14 (by decide +kernel) (hts (.fieldLink RX12 41 "TalePlayModel" "row" "[I") (List.mem_cons_of_mem _ (List.mem_append_left _ (List.mem_append_left _ (List.mem_of_getElem? (i := 15) rfl))))) (fun _ h9 => h9) rfl hin rfl (by decide +kernel) rfl rfl (Nat.le_of_ble_eq_true rfl) dX12_init_96 ?_
  clear hP hD hS
  intro H locs hP hD hS
  replace hP : va_P D vwCl ((m0, .inr (12, [.int 0, .ref q1, .int 0, .ref q2, .ref q3, .int 0, .ref q4, .ref q5, .int 0, .ref q6, .ref q7, .ref q8, .ref q9, .ref q10, .ref q11, .int 0, .int 0, .int 0, .int 0, .int 0, .null, .null, .int 0, .null, .null, .null, .null, .int 0, .null, .null, .null, .null, .null, .int 0, .null, .int 0, .int 0, .long 0, .null, .null, .int 0, .int 0, .int 0, .null, .null, .null, .null, .null, .null, .null, .int 0, .null, .null, .null, .null, .null, .null, .int 0, .int 0, .int 0, .null, .null, .null, .null, .int 0, .null, .null, .null, .null])) :: R11) H := hP
  replace hD : va_D A ((m0, .inr (12, [.int 0, .ref q1, .int 0, .ref q2, .ref q3, .int 0, .ref q4, .ref q5, .int 0, .ref q6, .ref q7, .ref q8, .ref q9, .ref q10, .ref q11, .int 0, .int 0, .int 0, .int 0, .int 0, .null, .null, .int 0, .null, .null, .null, .null, .int 0, .null, .null, .null, .null, .null, .int 0, .null, .int 0, .int 0, .long 0, .null, .null, .int 0, .int 0, .int 0, .null, .null, .null, .null, .null, .null, .null, .int 0, .null, .null, .null, .null, .null, .null, .int 0, .int 0, .int 0, .null, .null, .null, .null, .int 0, .null, .null, .null, .null])) :: R11) := hD
  refine lv_aload_n hx hb dX12_init_99 rfl (lv_at hl 0 rfl) ?_
  refine lv_bipush (v := 30) hx hb dX12_init_100 (by decide +kernel) ?_
  refine va_newa (atype := .int) (ty := .int) (a0 := (30, .inl (fun _ => 0))) hx hb (hts (.arrayClass .int) (List.mem_cons_of_mem _ (List.mem_append_left _ (List.mem_append_left _ (List.mem_of_getElem? (i := 3) rfl))))) rfl hK hP hD hS hA (fun _ => vp_cell_i _ _ _) (by decide +kernel) (N' := 30) (by decide +kernel) (show 30 * 4 ≤ 536870912 by omega) (Nat.le_of_ble_eq_true rfl) (Nat.le_of_ble_eq_true rfl) dX12_init_102 ?_
  clear hK hP hD hS
  intro q12 cA12 H hK hP hD hS
  refine W.widen (k := 12) (n := 1465) (Nat.le_of_ble_eq_true rfl) (Nat.le_of_ble_eq_true rfl) ?_
  replace hP := rotP hP
  replace hD := rotD hD
  replace hK := rotK hK
  obtain ⟨R12, hR12⟩ : ∃ z : va_W, z = (q12, .inl (cA12, 30, .inl (fun _ => 0))) :: R11 := ⟨_, rfl⟩
  obtain ⟨T12, hT12⟩ : ∃ z : List (ClassId × FieldType), z = (cA12, .int) :: T11 := ⟨_, rfl⟩
  rw [← hR12] at hP hD
  rw [← hT12] at hK
  refine va_putF (D := D) (ci := 12) (v := .ref q12) (ty := .array .int) (C := RX12) (T := TX12) (N := 69) hx hb hts (fun _ h => List.mem_cons_of_mem _ (List.mem_append_right _ h)) tyX12 tyX12_ok nmX12 hown hK hP hD hS 0 rfl rfl 20 (by decide +kernel) (hts (.fieldLink RX12 44 "TalePlayModel" "far" "[I") (List.mem_cons_of_mem _ (List.mem_append_left _ (List.mem_append_right _ (List.mem_append_left _ (List.mem_of_getElem? (i := 0) rfl)))))) (fun _ h9 => h9) rfl hin rfl (by decide +kernel) rfl rfl (Nat.le_of_ble_eq_true rfl) dX12_init_104 ?_
  clear hP hD hS
  intro H locs hP hD hS
  replace hP : va_P D vwCl ((m0, .inr (12, [.int 0, .ref q1, .int 0, .ref q2, .ref q3, .int 0, .ref q4, .ref q5, .int 0, .ref q6, .ref q7, .ref q8, .ref q9, .ref q10, .ref q11, .int 0, .int 0, .int 0, .int 0, .int 0, .ref q12, .null, .int 0, .null, .null, .null, .null, .int 0, .null, .null, .null, .null, .null, .int 0, .null, .int 0, .int 0, .long 0, .null, .null, .int 0, .int 0, .int 0, .null, .null, .null, .null, .null, .null, .null, .int 0, .null, .null, .null, .null, .null, .null, .int 0, .int 0, .int 0, .null, .null, .null, .null, .int 0, .null, .null, .null, .null])) :: R12) H := hP
  replace hD : va_D A ((m0, .inr (12, [.int 0, .ref q1, .int 0, .ref q2, .ref q3, .int 0, .ref q4, .ref q5, .int 0, .ref q6, .ref q7, .ref q8, .ref q9, .ref q10, .ref q11, .int 0, .int 0, .int 0, .int 0, .int 0, .ref q12, .null, .int 0, .null, .null, .null, .null, .int 0, .null, .null, .null, .null, .null, .int 0, .null, .int 0, .int 0, .long 0, .null, .null, .int 0, .int 0, .int 0, .null, .null, .null, .null, .null, .null, .null, .int 0, .null, .null, .null, .null, .null, .null, .int 0, .int 0, .int 0, .null, .null, .null, .null, .int 0, .null, .null, .null, .null])) :: R12) := hD
  refine lv_aload_n hx hb dX12_init_107 rfl (lv_at hl 0 rfl) ?_
  refine lv_bipush (v := 30) hx hb dX12_init_108 (by decide +kernel) ?_
  refine va_newa (atype := .int) (ty := .int) (a0 := (30, .inl (fun _ => 0))) hx hb (hts (.arrayClass .int) (List.mem_cons_of_mem _ (List.mem_append_left _ (List.mem_append_left _ (List.mem_of_getElem? (i := 3) rfl))))) rfl hK hP hD hS hA (fun _ => vp_cell_i _ _ _) (by decide +kernel) (N' := 30) (by decide +kernel) (show 30 * 4 ≤ 536870912 by omega) (Nat.le_of_ble_eq_true rfl) (Nat.le_of_ble_eq_true rfl) dX12_init_110 ?_
  clear hK hP hD hS
  intro q13 cA13 H hK hP hD hS
  refine W.widen (k := 13) (n := 1495) (Nat.le_of_ble_eq_true rfl) (Nat.le_of_ble_eq_true rfl) ?_
  replace hP := rotP hP
  replace hD := rotD hD
  replace hK := rotK hK
  obtain ⟨R13, hR13⟩ : ∃ z : va_W, z = (q13, .inl (cA13, 30, .inl (fun _ => 0))) :: R12 := ⟨_, rfl⟩
  obtain ⟨T13, hT13⟩ : ∃ z : List (ClassId × FieldType), z = (cA13, .int) :: T12 := ⟨_, rfl⟩
  rw [← hR13] at hP hD
  rw [← hT13] at hK
  refine va_putF (D := D) (ci := 12) (v := .ref q13) (ty := .array .int) (C := RX12) (T := TX12) (N := 69) hx hb hts (fun _ h => List.mem_cons_of_mem _ (List.mem_append_right _ h)) tyX12 tyX12_ok nmX12 hown hK hP hD hS 0 rfl rfl 21 (by decide +kernel) (hts (.fieldLink RX12 47 "TalePlayModel" "line" "[I") (List.mem_cons_of_mem _ (List.mem_append_left _ (List.mem_append_right _ (List.mem_append_left _ (List.mem_of_getElem? (i := 1) rfl)))))) (fun _ h9 => h9) rfl hin rfl (by decide +kernel) rfl rfl (Nat.le_of_ble_eq_true rfl) dX12_init_112 ?_
  clear hP hD hS
  intro H locs hP hD hS
  replace hP : va_P D vwCl ((m0, .inr (12, [.int 0, .ref q1, .int 0, .ref q2, .ref q3, .int 0, .ref q4, .ref q5, .int 0, .ref q6, .ref q7, .ref q8, .ref q9, .ref q10, .ref q11, .int 0, .int 0, .int 0, .int 0, .int 0, .ref q12, .ref q13, .int 0, .null, .null, .null, .null, .int 0, .null, .null, .null, .null, .null, .int 0, .null, .int 0, .int 0, .long 0, .null, .null, .int 0, .int 0, .int 0, .null, .null, .null, .null, .null, .null, .null, .int 0, .null, .null, .null, .null, .null, .null, .int 0, .int 0, .int 0, .null, .null, .null, .null, .int 0, .null, .null, .null, .null])) :: R13) H := hP
  replace hD : va_D A ((m0, .inr (12, [.int 0, .ref q1, .int 0, .ref q2, .ref q3, .int 0, .ref q4, .ref q5, .int 0, .ref q6, .ref q7, .ref q8, .ref q9, .ref q10, .ref q11, .int 0, .int 0, .int 0, .int 0, .int 0, .ref q12, .ref q13, .int 0, .null, .null, .null, .null, .int 0, .null, .null, .null, .null, .null, .int 0, .null, .int 0, .int 0, .long 0, .null, .null, .int 0, .int 0, .int 0, .null, .null, .null, .null, .null, .null, .null, .int 0, .null, .null, .null, .null, .null, .null, .int 0, .int 0, .int 0, .null, .null, .null, .null, .int 0, .null, .null, .null, .null])) :: R13) := hD
  refine lv_aload_n hx hb dX12_init_115 rfl (lv_at hl 0 rfl) ?_
  refine lv_bipush (v := 30) hx hb dX12_init_116 (by decide +kernel) ?_
  refine va_newa (atype := .int) (ty := .int) (a0 := (30, .inl (fun _ => 0))) hx hb (hts (.arrayClass .int) (List.mem_cons_of_mem _ (List.mem_append_left _ (List.mem_append_left _ (List.mem_of_getElem? (i := 3) rfl))))) rfl hK hP hD hS hA (fun _ => vp_cell_i _ _ _) (by decide +kernel) (N' := 30) (by decide +kernel) (show 30 * 4 ≤ 536870912 by omega) (Nat.le_of_ble_eq_true rfl) (Nat.le_of_ble_eq_true rfl) dX12_init_118 ?_
  clear hK hP hD hS
  intro q14 cA14 H hK hP hD hS
  refine W.widen (k := 14) (n := 1525) (Nat.le_of_ble_eq_true rfl) (Nat.le_of_ble_eq_true rfl) ?_
  replace hP := rotP hP
  replace hD := rotD hD
  replace hK := rotK hK
  obtain ⟨R14, hR14⟩ : ∃ z : va_W, z = (q14, .inl (cA14, 30, .inl (fun _ => 0))) :: R13 := ⟨_, rfl⟩
  obtain ⟨T14, hT14⟩ : ∃ z : List (ClassId × FieldType), z = (cA14, .int) :: T13 := ⟨_, rfl⟩
  rw [← hR14] at hP hD
  rw [← hT14] at hK
  refine va_putF (D := D) (ci := 12) (v := .ref q14) (ty := .array .int) (C := RX12) (T := TX12) (N := 69) hx hb hts (fun _ h => List.mem_cons_of_mem _ (List.mem_append_right _ h)) tyX12 tyX12_ok nmX12 hown hK hP hD hS 0 rfl rfl 23 (by decide +kernel) (hts (.fieldLink RX12 50 "TalePlayModel" "nForm" "[I") (List.mem_cons_of_mem _ (List.mem_append_left _ (List.mem_append_right _ (List.mem_append_left _ (List.mem_of_getElem? (i := 2) rfl)))))) (fun _ h9 => h9) rfl hin rfl (by decide +kernel) rfl rfl (Nat.le_of_ble_eq_true rfl) dX12_init_120 ?_
  clear hP hD hS
  intro H locs hP hD hS
  replace hP : va_P D vwCl ((m0, .inr (12, [.int 0, .ref q1, .int 0, .ref q2, .ref q3, .int 0, .ref q4, .ref q5, .int 0, .ref q6, .ref q7, .ref q8, .ref q9, .ref q10, .ref q11, .int 0, .int 0, .int 0, .int 0, .int 0, .ref q12, .ref q13, .int 0, .ref q14, .null, .null, .null, .int 0, .null, .null, .null, .null, .null, .int 0, .null, .int 0, .int 0, .long 0, .null, .null, .int 0, .int 0, .int 0, .null, .null, .null, .null, .null, .null, .null, .int 0, .null, .null, .null, .null, .null, .null, .int 0, .int 0, .int 0, .null, .null, .null, .null, .int 0, .null, .null, .null, .null])) :: R14) H := hP
  replace hD : va_D A ((m0, .inr (12, [.int 0, .ref q1, .int 0, .ref q2, .ref q3, .int 0, .ref q4, .ref q5, .int 0, .ref q6, .ref q7, .ref q8, .ref q9, .ref q10, .ref q11, .int 0, .int 0, .int 0, .int 0, .int 0, .ref q12, .ref q13, .int 0, .ref q14, .null, .null, .null, .int 0, .null, .null, .null, .null, .null, .int 0, .null, .int 0, .int 0, .long 0, .null, .null, .int 0, .int 0, .int 0, .null, .null, .null, .null, .null, .null, .null, .int 0, .null, .null, .null, .null, .null, .null, .int 0, .int 0, .int 0, .null, .null, .null, .null, .int 0, .null, .null, .null, .null])) :: R14) := hD
  refine lv_aload_n hx hb dX12_init_123 rfl (lv_at hl 0 rfl) ?_
  refine lv_bipush (v := 30) hx hb dX12_init_124 (by decide +kernel) ?_
  refine va_newa (atype := .int) (ty := .int) (a0 := (30, .inl (fun _ => 0))) hx hb (hts (.arrayClass .int) (List.mem_cons_of_mem _ (List.mem_append_left _ (List.mem_append_left _ (List.mem_of_getElem? (i := 3) rfl))))) rfl hK hP hD hS hA (fun _ => vp_cell_i _ _ _) (by decide +kernel) (N' := 30) (by decide +kernel) (show 30 * 4 ≤ 536870912 by omega) (Nat.le_of_ble_eq_true rfl) (Nat.le_of_ble_eq_true rfl) dX12_init_126 ?_
  clear hK hP hD hS
  intro q15 cA15 H hK hP hD hS
  refine W.widen (k := 15) (n := 1555) (Nat.le_of_ble_eq_true rfl) (Nat.le_of_ble_eq_true rfl) ?_
  replace hP := rotP hP
  replace hD := rotD hD
  replace hK := rotK hK
  obtain ⟨R15, hR15⟩ : ∃ z : va_W, z = (q15, .inl (cA15, 30, .inl (fun _ => 0))) :: R14 := ⟨_, rfl⟩
  obtain ⟨T15, hT15⟩ : ∃ z : List (ClassId × FieldType), z = (cA15, .int) :: T14 := ⟨_, rfl⟩
  rw [← hR15] at hP hD
  rw [← hT15] at hK
  refine va_putF (D := D) (ci := 12) (v := .ref q15) (ty := .array .int) (C := RX12) (T := TX12) (N := 69) hx hb hts (fun _ h => List.mem_cons_of_mem _ (List.mem_append_right _ h)) tyX12 tyX12_ok nmX12 hown hK hP hD hS 0 rfl rfl 24 (by decide +kernel) (hts (.fieldLink RX12 53 "TalePlayModel" "nAt" "[I") (List.mem_cons_of_mem _ (List.mem_append_left _ (List.mem_append_right _ (List.mem_append_left _ (List.mem_of_getElem? (i := 3) rfl)))))) (fun _ h9 => h9) rfl hin rfl (by decide +kernel) rfl rfl (Nat.le_of_ble_eq_true rfl) dX12_init_128 ?_
  clear hP hD hS
  intro H locs hP hD hS
  replace hP : va_P D vwCl ((m0, .inr (12, [.int 0, .ref q1, .int 0, .ref q2, .ref q3, .int 0, .ref q4, .ref q5, .int 0, .ref q6, .ref q7, .ref q8, .ref q9, .ref q10, .ref q11, .int 0, .int 0, .int 0, .int 0, .int 0, .ref q12, .ref q13, .int 0, .ref q14, .ref q15, .null, .null, .int 0, .null, .null, .null, .null, .null, .int 0, .null, .int 0, .int 0, .long 0, .null, .null, .int 0, .int 0, .int 0, .null, .null, .null, .null, .null, .null, .null, .int 0, .null, .null, .null, .null, .null, .null, .int 0, .int 0, .int 0, .null, .null, .null, .null, .int 0, .null, .null, .null, .null])) :: R15) H := hP
  replace hD : va_D A ((m0, .inr (12, [.int 0, .ref q1, .int 0, .ref q2, .ref q3, .int 0, .ref q4, .ref q5, .int 0, .ref q6, .ref q7, .ref q8, .ref q9, .ref q10, .ref q11, .int 0, .int 0, .int 0, .int 0, .int 0, .ref q12, .ref q13, .int 0, .ref q14, .ref q15, .null, .null, .int 0, .null, .null, .null, .null, .null, .int 0, .null, .int 0, .int 0, .long 0, .null, .null, .int 0, .int 0, .int 0, .null, .null, .null, .null, .null, .null, .null, .int 0, .null, .null, .null, .null, .null, .null, .int 0, .int 0, .int 0, .null, .null, .null, .null, .int 0, .null, .null, .null, .null])) :: R15) := hD
  refine lv_aload_n hx hb dX12_init_131 rfl (lv_at hl 0 rfl) ?_
  refine lv_bipush (v := 30) hx hb dX12_init_132 (by decide +kernel) ?_
  refine va_newa (atype := .boolean) (ty := .boolean) (a0 := (30, .inl (fun _ => 0))) hx hb (hts (.arrayClass .boolean) (List.mem_cons_of_mem _ (List.mem_append_left _ (List.mem_append_left _ (List.mem_of_getElem? (i := 13) rfl))))) rfl hK hP hD hS hA (fun _ => vp_cell_i _ _ _) (by decide +kernel) (N' := 30) (by decide +kernel) (show 30 * 1 ≤ 536870912 by omega) (Nat.le_of_ble_eq_true rfl) (Nat.le_of_ble_eq_true rfl) dX12_init_134 ?_
  clear hK hP hD hS
  intro q16 cA16 H hK hP hD hS
  refine W.widen (k := 16) (n := 1585) (Nat.le_of_ble_eq_true rfl) (Nat.le_of_ble_eq_true rfl) ?_
  replace hP := rotP hP
  replace hD := rotD hD
  replace hK := rotK hK
  obtain ⟨R16, hR16⟩ : ∃ z : va_W, z = (q16, .inl (cA16, 30, .inl (fun _ => 0))) :: R15 := ⟨_, rfl⟩
  obtain ⟨T16, hT16⟩ : ∃ z : List (ClassId × FieldType), z = (cA16, .boolean) :: T15 := ⟨_, rfl⟩
  rw [← hR16] at hP hD
  rw [← hT16] at hK
  refine va_putF (D := D) (ci := 12) (v := .ref q16) (ty := .array .boolean) (C := RX12) (T := TX12) (N := 69) hx hb hts (fun _ h => List.mem_cons_of_mem _ (List.mem_append_right _ h)) tyX12 tyX12_ok nmX12 hown hK hP hD hS 0 rfl rfl 25 (by decide +kernel) (hts (.fieldLink RX12 56 "TalePlayModel" "nOpen" "[Z") (List.mem_cons_of_mem _ (List.mem_append_left _ (List.mem_append_right _ (List.mem_append_left _ (List.mem_of_getElem? (i := 4) rfl)))))) (fun _ h9 => h9) rfl hin rfl (by decide +kernel) rfl rfl (Nat.le_of_ble_eq_true rfl) dX12_init_136 ?_
  clear hP hD hS
  intro H locs hP hD hS
  replace hP : va_P D vwCl ((m0, .inr (12, [.int 0, .ref q1, .int 0, .ref q2, .ref q3, .int 0, .ref q4, .ref q5, .int 0, .ref q6, .ref q7, .ref q8, .ref q9, .ref q10, .ref q11, .int 0, .int 0, .int 0, .int 0, .int 0, .ref q12, .ref q13, .int 0, .ref q14, .ref q15, .ref q16, .null, .int 0, .null, .null, .null, .null, .null, .int 0, .null, .int 0, .int 0, .long 0, .null, .null, .int 0, .int 0, .int 0, .null, .null, .null, .null, .null, .null, .null, .int 0, .null, .null, .null, .null, .null, .null, .int 0, .int 0, .int 0, .null, .null, .null, .null, .int 0, .null, .null, .null, .null])) :: R16) H := hP
  replace hD : va_D A ((m0, .inr (12, [.int 0, .ref q1, .int 0, .ref q2, .ref q3, .int 0, .ref q4, .ref q5, .int 0, .ref q6, .ref q7, .ref q8, .ref q9, .ref q10, .ref q11, .int 0, .int 0, .int 0, .int 0, .int 0, .ref q12, .ref q13, .int 0, .ref q14, .ref q15, .ref q16, .null, .int 0, .null, .null, .null, .null, .null, .int 0, .null, .int 0, .int 0, .long 0, .null, .null, .int 0, .int 0, .int 0, .null, .null, .null, .null, .null, .null, .null, .int 0, .null, .null, .null, .null, .null, .null, .int 0, .int 0, .int 0, .null, .null, .null, .null, .int 0, .null, .null, .null, .null])) :: R16) := hD
  refine lv_aload_n hx hb dX12_init_139 rfl (lv_at hl 0 rfl) ?_
  refine lv_bipush (v := 30) hx hb dX12_init_140 (by decide +kernel) ?_
  refine va_newa (atype := .boolean) (ty := .boolean) (a0 := (30, .inl (fun _ => 0))) hx hb (hts (.arrayClass .boolean) (List.mem_cons_of_mem _ (List.mem_append_left _ (List.mem_append_left _ (List.mem_of_getElem? (i := 13) rfl))))) rfl hK hP hD hS hA (fun _ => vp_cell_i _ _ _) (by decide +kernel) (N' := 30) (by decide +kernel) (show 30 * 1 ≤ 536870912 by omega) (Nat.le_of_ble_eq_true rfl) (Nat.le_of_ble_eq_true rfl) dX12_init_142 ?_
  clear hK hP hD hS
  intro q17 cA17 H hK hP hD hS
  refine W.widen (k := 17) (n := 1615) (Nat.le_of_ble_eq_true rfl) (Nat.le_of_ble_eq_true rfl) ?_
  replace hP := rotP hP
  replace hD := rotD hD
  replace hK := rotK hK
  obtain ⟨R17, hR17⟩ : ∃ z : va_W, z = (q17, .inl (cA17, 30, .inl (fun _ => 0))) :: R16 := ⟨_, rfl⟩
  obtain ⟨T17, hT17⟩ : ∃ z : List (ClassId × FieldType), z = (cA17, .boolean) :: T16 := ⟨_, rfl⟩
  rw [← hR17] at hP hD
  rw [← hT17] at hK
  refine va_putF (D := D) (ci := 12) (v := .ref q17) (ty := .array .boolean) (C := RX12) (T := TX12) (N := 69) hx hb hts (fun _ h => List.mem_cons_of_mem _ (List.mem_append_right _ h)) tyX12 tyX12_ok nmX12 hown hK hP hD hS 0 rfl rfl 26 (by decide +kernel) (hts (.fieldLink RX12 59 "TalePlayModel" "nLocked" "[Z") (List.mem_cons_of_mem _ (List.mem_append_left _ (List.mem_append_right _ (List.mem_append_left _ (List.mem_of_getElem? (i := 5) rfl)))))) (fun _ h9 => h9) rfl hin rfl (by decide +kernel) rfl rfl (Nat.le_of_ble_eq_true rfl) dX12_init_144 ?_
  clear hP hD hS
  intro H locs hP hD hS
  replace hP : va_P D vwCl ((m0, .inr (12, [.int 0, .ref q1, .int 0, .ref q2, .ref q3, .int 0, .ref q4, .ref q5, .int 0, .ref q6, .ref q7, .ref q8, .ref q9, .ref q10, .ref q11, .int 0, .int 0, .int 0, .int 0, .int 0, .ref q12, .ref q13, .int 0, .ref q14, .ref q15, .ref q16, .ref q17, .int 0, .null, .null, .null, .null, .null, .int 0, .null, .int 0, .int 0, .long 0, .null, .null, .int 0, .int 0, .int 0, .null, .null, .null, .null, .null, .null, .null, .int 0, .null, .null, .null, .null, .null, .null, .int 0, .int 0, .int 0, .null, .null, .null, .null, .int 0, .null, .null, .null, .null])) :: R17) H := hP
  replace hD : va_D A ((m0, .inr (12, [.int 0, .ref q1, .int 0, .ref q2, .ref q3, .int 0, .ref q4, .ref q5, .int 0, .ref q6, .ref q7, .ref q8, .ref q9, .ref q10, .ref q11, .int 0, .int 0, .int 0, .int 0, .int 0, .ref q12, .ref q13, .int 0, .ref q14, .ref q15, .ref q16, .ref q17, .int 0, .null, .null, .null, .null, .null, .int 0, .null, .int 0, .int 0, .long 0, .null, .null, .int 0, .int 0, .int 0, .null, .null, .null, .null, .null, .null, .null, .int 0, .null, .null, .null, .null, .null, .null, .int 0, .int 0, .int 0, .null, .null, .null, .null, .int 0, .null, .null, .null, .null])) :: R17) := hD
  refine lv_aload_n hx hb dX12_init_147 rfl (lv_at hl 0 rfl) ?_
  refine lv_sipush (v := 300) hx hb dX12_init_148 (by decide +kernel) ?_
  refine va_newa (atype := .int) (ty := .int) (a0 := (300, .inl (fun _ => 0))) hx hb (hts (.arrayClass .int) (List.mem_cons_of_mem _ (List.mem_append_left _ (List.mem_append_left _ (List.mem_of_getElem? (i := 3) rfl))))) rfl hK hP hD hS hA (fun _ => vp_cell_i _ _ _) (by decide +kernel) (N' := 300) (by decide +kernel) (show 300 * 4 ≤ 536870912 by omega) (Nat.le_of_ble_eq_true rfl) (Nat.le_of_ble_eq_true rfl) dX12_init_151 ?_
  clear hK hP hD hS
  intro q18 cA18 H hK hP hD hS
  refine W.widen (k := 18) (n := 1915) (Nat.le_of_ble_eq_true rfl) (Nat.le_of_ble_eq_true rfl) ?_
  replace hP := rotP hP
  replace hD := rotD hD
  replace hK := rotK hK
  obtain ⟨R18, hR18⟩ : ∃ z : va_W, z = (q18, .inl (cA18, 300, .inl (fun _ => 0))) :: R17 := ⟨_, rfl⟩
  obtain ⟨T18, hT18⟩ : ∃ z : List (ClassId × FieldType), z = (cA18, .int) :: T17 := ⟨_, rfl⟩
  rw [← hR18] at hP hD
  rw [← hT18] at hK
  refine va_putF (D := D) (ci := 12) (v := .ref q18) (ty := .array .int) (C := RX12) (T := TX12) (N := 69) hx hb hts (fun _ h => List.mem_cons_of_mem _ (List.mem_append_right _ h)) tyX12 tyX12_ok nmX12 hown hK hP hD hS 0 rfl rfl 28 (by decide +kernel) (hts (.fieldLink RX12 62 "TalePlayModel" "turnRow" "[I") (List.mem_cons_of_mem _ (List.mem_append_left _ (List.mem_append_right _ (List.mem_append_left _ (List.mem_of_getElem? (i := 6) rfl)))))) (fun _ h9 => h9) rfl hin rfl (by decide +kernel) rfl rfl (Nat.le_of_ble_eq_true rfl) dX12_init_153 ?_
  clear hP hD hS
  intro H locs hP hD hS
  replace hP : va_P D vwCl ((m0, .inr (12, [.int 0, .ref q1, .int 0, .ref q2, .ref q3, .int 0, .ref q4, .ref q5, .int 0, .ref q6, .ref q7, .ref q8, .ref q9, .ref q10, .ref q11, .int 0, .int 0, .int 0, .int 0, .int 0, .ref q12, .ref q13, .int 0, .ref q14, .ref q15, .ref q16, .ref q17, .int 0, .ref q18, .null, .null, .null, .null, .int 0, .null, .int 0, .int 0, .long 0, .null, .null, .int 0, .int 0, .int 0, .null, .null, .null, .null, .null, .null, .null, .int 0, .null, .null, .null, .null, .null, .null, .int 0, .int 0, .int 0, .null, .null, .null, .null, .int 0, .null, .null, .null, .null])) :: R18) H := hP
  replace hD : va_D A ((m0, .inr (12, [.int 0, .ref q1, .int 0, .ref q2, .ref q3, .int 0, .ref q4, .ref q5, .int 0, .ref q6, .ref q7, .ref q8, .ref q9, .ref q10, .ref q11, .int 0, .int 0, .int 0, .int 0, .int 0, .ref q12, .ref q13, .int 0, .ref q14, .ref q15, .ref q16, .ref q17, .int 0, .ref q18, .null, .null, .null, .null, .int 0, .null, .int 0, .int 0, .long 0, .null, .null, .int 0, .int 0, .int 0, .null, .null, .null, .null, .null, .null, .null, .int 0, .null, .null, .null, .null, .null, .null, .int 0, .int 0, .int 0, .null, .null, .null, .null, .int 0, .null, .null, .null, .null])) :: R18) := hD
  refine lv_aload_n hx hb dX12_init_156 rfl (lv_at hl 0 rfl) ?_
  refine lv_sipush (v := 3000) hx hb dX12_init_157 (by decide +kernel) ?_
  refine va_newa (atype := .int) (ty := .int) (a0 := (3000, .inl (fun _ => 0))) hx hb (hts (.arrayClass .int) (List.mem_cons_of_mem _ (List.mem_append_left _ (List.mem_append_left _ (List.mem_of_getElem? (i := 3) rfl))))) rfl hK hP hD hS hA (fun _ => vp_cell_i _ _ _) (by decide +kernel) (N' := 3000) (by decide +kernel) (show 3000 * 4 ≤ 536870912 by omega) (Nat.le_of_ble_eq_true rfl) (Nat.le_of_ble_eq_true rfl) dX12_init_160 ?_
  clear hK hP hD hS
  intro q19 cA19 H hK hP hD hS
  refine W.widen (k := 19) (n := 4915) (Nat.le_of_ble_eq_true rfl) (Nat.le_of_ble_eq_true rfl) ?_
  replace hP := rotP hP
  replace hD := rotD hD
  replace hK := rotK hK
  obtain ⟨R19, hR19⟩ : ∃ z : va_W, z = (q19, .inl (cA19, 3000, .inl (fun _ => 0))) :: R18 := ⟨_, rfl⟩
  obtain ⟨T19, hT19⟩ : ∃ z : List (ClassId × FieldType), z = (cA19, .int) :: T18 := ⟨_, rfl⟩
  rw [← hR19] at hP hD
  rw [← hT19] at hK
  refine va_putF (D := D) (ci := 12) (v := .ref q19) (ty := .array .int) (C := RX12) (T := TX12) (N := 69) hx hb hts (fun _ h => List.mem_cons_of_mem _ (List.mem_append_right _ h)) tyX12 tyX12_ok nmX12 hown hK hP hD hS 0 rfl rfl 29 (by decide +kernel) (hts (.fieldLink RX12 65 "TalePlayModel" "wasForm" "[I") (List.mem_cons_of_mem _ (List.mem_append_left _ (List.mem_append_right _ (List.mem_append_left _ (List.mem_of_getElem? (i := 7) rfl)))))) (fun _ h9 => h9) rfl hin rfl (by decide +kernel) rfl rfl (Nat.le_of_ble_eq_true rfl) dX12_init_162 ?_
  clear hP hD hS
  intro H locs hP hD hS
  replace hP : va_P D vwCl ((m0, .inr (12, [.int 0, .ref q1, .int 0, .ref q2, .ref q3, .int 0, .ref q4, .ref q5, .int 0, .ref q6, .ref q7, .ref q8, .ref q9, .ref q10, .ref q11, .int 0, .int 0, .int 0, .int 0, .int 0, .ref q12, .ref q13, .int 0, .ref q14, .ref q15, .ref q16, .ref q17, .int 0, .ref q18, .ref q19, .null, .null, .null, .int 0, .null, .int 0, .int 0, .long 0, .null, .null, .int 0, .int 0, .int 0, .null, .null, .null, .null, .null, .null, .null, .int 0, .null, .null, .null, .null, .null, .null, .int 0, .int 0, .int 0, .null, .null, .null, .null, .int 0, .null, .null, .null, .null])) :: R19) H := hP
  replace hD : va_D A ((m0, .inr (12, [.int 0, .ref q1, .int 0, .ref q2, .ref q3, .int 0, .ref q4, .ref q5, .int 0, .ref q6, .ref q7, .ref q8, .ref q9, .ref q10, .ref q11, .int 0, .int 0, .int 0, .int 0, .int 0, .ref q12, .ref q13, .int 0, .ref q14, .ref q15, .ref q16, .ref q17, .int 0, .ref q18, .ref q19, .null, .null, .null, .int 0, .null, .int 0, .int 0, .long 0, .null, .null, .int 0, .int 0, .int 0, .null, .null, .null, .null, .null, .null, .null, .int 0, .null, .null, .null, .null, .null, .null, .int 0, .int 0, .int 0, .null, .null, .null, .null, .int 0, .null, .null, .null, .null])) :: R19) := hD
  refine lv_aload_n hx hb dX12_init_165 rfl (lv_at hl 0 rfl) ?_
  refine lv_sipush (v := 3000) hx hb dX12_init_166 (by decide +kernel) ?_
  refine va_newa (atype := .int) (ty := .int) (a0 := (3000, .inl (fun _ => 0))) hx hb (hts (.arrayClass .int) (List.mem_cons_of_mem _ (List.mem_append_left _ (List.mem_append_left _ (List.mem_of_getElem? (i := 3) rfl))))) rfl hK hP hD hS hA (fun _ => vp_cell_i _ _ _) (by decide +kernel) (N' := 3000) (by decide +kernel) (show 3000 * 4 ≤ 536870912 by omega) (Nat.le_of_ble_eq_true rfl) (Nat.le_of_ble_eq_true rfl) dX12_init_169 ?_
  clear hK hP hD hS
  intro q20 cA20 H hK hP hD hS
  refine W.widen (k := 20) (n := 7915) (Nat.le_of_ble_eq_true rfl) (Nat.le_of_ble_eq_true rfl) ?_
  replace hP := rotP hP
  replace hD := rotD hD
  replace hK := rotK hK
  obtain ⟨R20, hR20⟩ : ∃ z : va_W, z = (q20, .inl (cA20, 3000, .inl (fun _ => 0))) :: R19 := ⟨_, rfl⟩
  obtain ⟨T20, hT20⟩ : ∃ z : List (ClassId × FieldType), z = (cA20, .int) :: T19 := ⟨_, rfl⟩
  rw [← hR20] at hP hD
  rw [← hT20] at hK
  refine va_putF (D := D) (ci := 12) (v := .ref q20) (ty := .array .int) (C := RX12) (T := TX12) (N := 69) hx hb hts (fun _ h => List.mem_cons_of_mem _ (List.mem_append_right _ h)) tyX12 tyX12_ok nmX12 hown hK hP hD hS 0 rfl rfl 30 (by decide +kernel) (hts (.fieldLink RX12 68 "TalePlayModel" "wasAt" "[I") (List.mem_cons_of_mem _ (List.mem_append_left _ (List.mem_append_right _ (List.mem_append_left _ (List.mem_of_getElem? (i := 8) rfl)))))) (fun _ h9 => h9) rfl hin rfl (by decide +kernel) rfl rfl (Nat.le_of_ble_eq_true rfl) dX12_init_171 ?_
  clear hP hD hS
  intro H locs hP hD hS
  replace hP : va_P D vwCl ((m0, .inr (12, [.int 0, .ref q1, .int 0, .ref q2, .ref q3, .int 0, .ref q4, .ref q5, .int 0, .ref q6, .ref q7, .ref q8, .ref q9, .ref q10, .ref q11, .int 0, .int 0, .int 0, .int 0, .int 0, .ref q12, .ref q13, .int 0, .ref q14, .ref q15, .ref q16, .ref q17, .int 0, .ref q18, .ref q19, .ref q20, .null, .null, .int 0, .null, .int 0, .int 0, .long 0, .null, .null, .int 0, .int 0, .int 0, .null, .null, .null, .null, .null, .null, .null, .int 0, .null, .null, .null, .null, .null, .null, .int 0, .int 0, .int 0, .null, .null, .null, .null, .int 0, .null, .null, .null, .null])) :: R20) H := hP
  replace hD : va_D A ((m0, .inr (12, [.int 0, .ref q1, .int 0, .ref q2, .ref q3, .int 0, .ref q4, .ref q5, .int 0, .ref q6, .ref q7, .ref q8, .ref q9, .ref q10, .ref q11, .int 0, .int 0, .int 0, .int 0, .int 0, .ref q12, .ref q13, .int 0, .ref q14, .ref q15, .ref q16, .ref q17, .int 0, .ref q18, .ref q19, .ref q20, .null, .null, .int 0, .null, .int 0, .int 0, .long 0, .null, .null, .int 0, .int 0, .int 0, .null, .null, .null, .null, .null, .null, .null, .int 0, .null, .null, .null, .null, .null, .null, .int 0, .int 0, .int 0, .null, .null, .null, .null, .int 0, .null, .null, .null, .null])) :: R20) := hD
  refine lv_aload_n hx hb dX12_init_174 rfl (lv_at hl 0 rfl) ?_
  refine lv_sipush (v := 3000) hx hb dX12_init_175 (by decide +kernel) ?_
  refine va_newa (atype := .boolean) (ty := .boolean) (a0 := (3000, .inl (fun _ => 0))) hx hb (hts (.arrayClass .boolean) (List.mem_cons_of_mem _ (List.mem_append_left _ (List.mem_append_left _ (List.mem_of_getElem? (i := 13) rfl))))) rfl hK hP hD hS hA (fun _ => vp_cell_i _ _ _) (by decide +kernel) (N' := 3000) (by decide +kernel) (show 3000 * 1 ≤ 536870912 by omega) (Nat.le_of_ble_eq_true rfl) (Nat.le_of_ble_eq_true rfl) dX12_init_178 ?_
  clear hK hP hD hS
  intro q21 cA21 H hK hP hD hS
  refine W.widen (k := 21) (n := 10915) (Nat.le_of_ble_eq_true rfl) (Nat.le_of_ble_eq_true rfl) ?_
  replace hP := rotP hP
  replace hD := rotD hD
  replace hK := rotK hK
  obtain ⟨R21, hR21⟩ : ∃ z : va_W, z = (q21, .inl (cA21, 3000, .inl (fun _ => 0))) :: R20 := ⟨_, rfl⟩
  obtain ⟨T21, hT21⟩ : ∃ z : List (ClassId × FieldType), z = (cA21, .boolean) :: T20 := ⟨_, rfl⟩
  rw [← hR21] at hP hD
  rw [← hT21] at hK
  refine va_putF (D := D) (ci := 12) (v := .ref q21) (ty := .array .boolean) (C := RX12) (T := TX12) (N := 69) hx hb hts (fun _ h => List.mem_cons_of_mem _ (List.mem_append_right _ h)) tyX12 tyX12_ok nmX12 hown hK hP hD hS 0 rfl rfl 31 (by decide +kernel) (hts (.fieldLink RX12 71 "TalePlayModel" "wasOpen" "[Z") (List.mem_cons_of_mem _ (List.mem_append_left _ (List.mem_append_right _ (List.mem_append_left _ (List.mem_of_getElem? (i := 9) rfl)))))) (fun _ h9 => h9) rfl hin rfl (by decide +kernel) rfl rfl (Nat.le_of_ble_eq_true rfl) dX12_init_180 ?_
  clear hP hD hS
  intro H locs hP hD hS
  replace hP : va_P D vwCl ((m0, .inr (12, [.int 0, .ref q1, .int 0, .ref q2, .ref q3, .int 0, .ref q4, .ref q5, .int 0, .ref q6, .ref q7, .ref q8, .ref q9, .ref q10, .ref q11, .int 0, .int 0, .int 0, .int 0, .int 0, .ref q12, .ref q13, .int 0, .ref q14, .ref q15, .ref q16, .ref q17, .int 0, .ref q18, .ref q19, .ref q20, .ref q21, .null, .int 0, .null, .int 0, .int 0, .long 0, .null, .null, .int 0, .int 0, .int 0, .null, .null, .null, .null, .null, .null, .null, .int 0, .null, .null, .null, .null, .null, .null, .int 0, .int 0, .int 0, .null, .null, .null, .null, .int 0, .null, .null, .null, .null])) :: R21) H := hP
  replace hD : va_D A ((m0, .inr (12, [.int 0, .ref q1, .int 0, .ref q2, .ref q3, .int 0, .ref q4, .ref q5, .int 0, .ref q6, .ref q7, .ref q8, .ref q9, .ref q10, .ref q11, .int 0, .int 0, .int 0, .int 0, .int 0, .ref q12, .ref q13, .int 0, .ref q14, .ref q15, .ref q16, .ref q17, .int 0, .ref q18, .ref q19, .ref q20, .ref q21, .null, .int 0, .null, .int 0, .int 0, .long 0, .null, .null, .int 0, .int 0, .int 0, .null, .null, .null, .null, .null, .null, .null, .int 0, .null, .null, .null, .null, .null, .null, .int 0, .int 0, .int 0, .null, .null, .null, .null, .int 0, .null, .null, .null, .null])) :: R21) := hD
  refine lv_aload_n hx hb dX12_init_183 rfl (lv_at hl 0 rfl) ?_
  refine lv_sipush (v := 3000) hx hb dX12_init_184 (by decide +kernel) ?_
  refine va_newa (atype := .boolean) (ty := .boolean) (a0 := (3000, .inl (fun _ => 0))) hx hb (hts (.arrayClass .boolean) (List.mem_cons_of_mem _ (List.mem_append_left _ (List.mem_append_left _ (List.mem_of_getElem? (i := 13) rfl))))) rfl hK hP hD hS hA (fun _ => vp_cell_i _ _ _) (by decide +kernel) (N' := 3000) (by decide +kernel) (show 3000 * 1 ≤ 536870912 by omega) (Nat.le_of_ble_eq_true rfl) (Nat.le_of_ble_eq_true rfl) dX12_init_187 ?_
  clear hK hP hD hS
  intro q22 cA22 H hK hP hD hS
  refine W.widen (k := 22) (n := 13915) (Nat.le_of_ble_eq_true rfl) (Nat.le_of_ble_eq_true rfl) ?_
  replace hP := rotP hP
  replace hD := rotD hD
  replace hK := rotK hK
  obtain ⟨R22, hR22⟩ : ∃ z : va_W, z = (q22, .inl (cA22, 3000, .inl (fun _ => 0))) :: R21 := ⟨_, rfl⟩
  obtain ⟨T22, hT22⟩ : ∃ z : List (ClassId × FieldType), z = (cA22, .boolean) :: T21 := ⟨_, rfl⟩
  rw [← hR22] at hP hD
  rw [← hT22] at hK
  refine va_putF (D := D) (ci := 12) (v := .ref q22) (ty := .array .boolean) (C := RX12) (T := TX12) (N := 69) hx hb hts (fun _ h => List.mem_cons_of_mem _ (List.mem_append_right _ h)) tyX12 tyX12_ok nmX12 hown hK hP hD hS 0 rfl rfl 32 (by decide +kernel) (hts (.fieldLink RX12 74 "TalePlayModel" "wasLocked" "[Z") (List.mem_cons_of_mem _ (List.mem_append_left _ (List.mem_append_right _ (List.mem_append_left _ (List.mem_of_getElem? (i := 10) rfl)))))) (fun _ h9 => h9) rfl hin rfl (by decide +kernel) rfl rfl (Nat.le_of_ble_eq_true rfl) dX12_init_189 ?_
  clear hP hD hS
  intro H locs hP hD hS
  replace hP : va_P D vwCl ((m0, .inr (12, [.int 0, .ref q1, .int 0, .ref q2, .ref q3, .int 0, .ref q4, .ref q5, .int 0, .ref q6, .ref q7, .ref q8, .ref q9, .ref q10, .ref q11, .int 0, .int 0, .int 0, .int 0, .int 0, .ref q12, .ref q13, .int 0, .ref q14, .ref q15, .ref q16, .ref q17, .int 0, .ref q18, .ref q19, .ref q20, .ref q21, .ref q22, .int 0, .null, .int 0, .int 0, .long 0, .null, .null, .int 0, .int 0, .int 0, .null, .null, .null, .null, .null, .null, .null, .int 0, .null, .null, .null, .null, .null, .null, .int 0, .int 0, .int 0, .null, .null, .null, .null, .int 0, .null, .null, .null, .null])) :: R22) H := hP
  replace hD : va_D A ((m0, .inr (12, [.int 0, .ref q1, .int 0, .ref q2, .ref q3, .int 0, .ref q4, .ref q5, .int 0, .ref q6, .ref q7, .ref q8, .ref q9, .ref q10, .ref q11, .int 0, .int 0, .int 0, .int 0, .int 0, .ref q12, .ref q13, .int 0, .ref q14, .ref q15, .ref q16, .ref q17, .int 0, .ref q18, .ref q19, .ref q20, .ref q21, .ref q22, .int 0, .null, .int 0, .int 0, .long 0, .null, .null, .int 0, .int 0, .int 0, .null, .null, .null, .null, .null, .null, .null, .int 0, .null, .null, .null, .null, .null, .null, .int 0, .int 0, .int 0, .null, .null, .null, .null, .int 0, .null, .null, .null, .null])) :: R22) := hD
  refine lv_aload_n hx hb dX12_init_192 rfl (lv_at hl 0 rfl) ?_
  refine lv_bipush (v := 100) hx hb dX12_init_193 (by decide +kernel) ?_
  refine va_newa (atype := .int) (ty := .int) (a0 := (100, .inl (fun _ => 0))) hx hb (hts (.arrayClass .int) (List.mem_cons_of_mem _ (List.mem_append_left _ (List.mem_append_left _ (List.mem_of_getElem? (i := 3) rfl))))) rfl hK hP hD hS hA (fun _ => vp_cell_i _ _ _) (by decide +kernel) (N' := 100) (by decide +kernel) (show 100 * 4 ≤ 536870912 by omega) (Nat.le_of_ble_eq_true rfl) (Nat.le_of_ble_eq_true rfl) dX12_init_195 ?_
  clear hK hP hD hS
  intro q23 cA23 H hK hP hD hS
  refine W.widen (k := 23) (n := 14015) (Nat.le_of_ble_eq_true rfl) (Nat.le_of_ble_eq_true rfl) ?_
  replace hP := rotP hP
  replace hD := rotD hD
  replace hK := rotK hK
  obtain ⟨R23, hR23⟩ : ∃ z : va_W, z = (q23, .inl (cA23, 100, .inl (fun _ => 0))) :: R22 := ⟨_, rfl⟩
  obtain ⟨T23, hT23⟩ : ∃ z : List (ClassId × FieldType), z = (cA23, .int) :: T22 := ⟨_, rfl⟩
  rw [← hR23] at hP hD
  rw [← hT23] at hK
  refine va_putF (D := D) (ci := 12) (v := .ref q23) (ty := .array .int) (C := RX12) (T := TX12) (N := 69) hx hb hts (fun _ h => List.mem_cons_of_mem _ (List.mem_append_right _ h)) tyX12 tyX12_ok nmX12 hown hK hP hD hS 0 rfl rfl 34 (by decide +kernel) (hts (.fieldLink RX12 77 "TalePlayModel" "trace" "[I") (List.mem_cons_of_mem _ (List.mem_append_left _ (List.mem_append_right _ (List.mem_append_left _ (List.mem_of_getElem? (i := 11) rfl)))))) (fun _ h9 => h9) rfl hin rfl (by decide +kernel) rfl rfl (Nat.le_of_ble_eq_true rfl) dX12_init_197 ?_
  clear hP hD hS
  intro H locs hP hD hS
  replace hP : va_P D vwCl ((m0, .inr (12, [.int 0, .ref q1, .int 0, .ref q2, .ref q3, .int 0, .ref q4, .ref q5, .int 0, .ref q6, .ref q7, .ref q8, .ref q9, .ref q10, .ref q11, .int 0, .int 0, .int 0, .int 0, .int 0, .ref q12, .ref q13, .int 0, .ref q14, .ref q15, .ref q16, .ref q17, .int 0, .ref q18, .ref q19, .ref q20, .ref q21, .ref q22, .int 0, .ref q23, .int 0, .int 0, .long 0, .null, .null, .int 0, .int 0, .int 0, .null, .null, .null, .null, .null, .null, .null, .int 0, .null, .null, .null, .null, .null, .null, .int 0, .int 0, .int 0, .null, .null, .null, .null, .int 0, .null, .null, .null, .null])) :: R23) H := hP
  replace hD : va_D A ((m0, .inr (12, [.int 0, .ref q1, .int 0, .ref q2, .ref q3, .int 0, .ref q4, .ref q5, .int 0, .ref q6, .ref q7, .ref q8, .ref q9, .ref q10, .ref q11, .int 0, .int 0, .int 0, .int 0, .int 0, .ref q12, .ref q13, .int 0, .ref q14, .ref q15, .ref q16, .ref q17, .int 0, .ref q18, .ref q19, .ref q20, .ref q21, .ref q22, .int 0, .ref q23, .int 0, .int 0, .long 0, .null, .null, .int 0, .int 0, .int 0, .null, .null, .null, .null, .null, .null, .null, .int 0, .null, .null, .null, .null, .null, .null, .int 0, .int 0, .int 0, .null, .null, .null, .null, .int 0, .null, .null, .null, .null])) :: R23) := hD
  refine lv_aload_n hx hb dX12_init_200 rfl (lv_at hl 0 rfl) ?_
  refine lv_bipush (v := 30) hx hb dX12_init_201 (by decide +kernel) ?_
  refine va_newa (atype := .int) (ty := .int) (a0 := (30, .inl (fun _ => 0))) hx hb (hts (.arrayClass .int) (List.mem_cons_of_mem _ (List.mem_append_left _ (List.mem_append_left _ (List.mem_of_getElem? (i := 3) rfl))))) rfl hK hP hD hS hA (fun _ => vp_cell_i _ _ _) (by decide +kernel) (N' := 30) (by decide +kernel) (show 30 * 4 ≤ 536870912 by omega) (Nat.le_of_ble_eq_true rfl) (Nat.le_of_ble_eq_true rfl) dX12_init_203 ?_
  clear hK hP hD hS
  intro q24 cA24 H hK hP hD hS
  refine W.widen (k := 24) (n := 14045) (Nat.le_of_ble_eq_true rfl) (Nat.le_of_ble_eq_true rfl) ?_
  replace hP := rotP hP
  replace hD := rotD hD
  replace hK := rotK hK
  obtain ⟨R24, hR24⟩ : ∃ z : va_W, z = (q24, .inl (cA24, 30, .inl (fun _ => 0))) :: R23 := ⟨_, rfl⟩
  obtain ⟨T24, hT24⟩ : ∃ z : List (ClassId × FieldType), z = (cA24, .int) :: T23 := ⟨_, rfl⟩
  rw [← hR24] at hP hD
  rw [← hT24] at hK
  refine va_putF (D := D) (ci := 12) (v := .ref q24) (ty := .array .int) (C := RX12) (T := TX12) (N := 69) hx hb hts (fun _ h => List.mem_cons_of_mem _ (List.mem_append_right _ h)) tyX12 tyX12_ok nmX12 hown hK hP hD hS 0 rfl rfl 38 (by decide +kernel) (hts (.fieldLink RX12 80 "TalePlayModel" "pile" "[I") (List.mem_cons_of_mem _ (List.mem_append_left _ (List.mem_append_right _ (List.mem_append_left _ (List.mem_of_getElem? (i := 12) rfl)))))) (fun _ h9 => h9) rfl hin rfl (by decide +kernel) rfl rfl (Nat.le_of_ble_eq_true rfl) dX12_init_205 ?_
  clear hP hD hS
  intro H locs hP hD hS
  replace hP : va_P D vwCl ((m0, .inr (12, [.int 0, .ref q1, .int 0, .ref q2, .ref q3, .int 0, .ref q4, .ref q5, .int 0, .ref q6, .ref q7, .ref q8, .ref q9, .ref q10, .ref q11, .int 0, .int 0, .int 0, .int 0, .int 0, .ref q12, .ref q13, .int 0, .ref q14, .ref q15, .ref q16, .ref q17, .int 0, .ref q18, .ref q19, .ref q20, .ref q21, .ref q22, .int 0, .ref q23, .int 0, .int 0, .long 0, .ref q24, .null, .int 0, .int 0, .int 0, .null, .null, .null, .null, .null, .null, .null, .int 0, .null, .null, .null, .null, .null, .null, .int 0, .int 0, .int 0, .null, .null, .null, .null, .int 0, .null, .null, .null, .null])) :: R24) H := hP
  replace hD : va_D A ((m0, .inr (12, [.int 0, .ref q1, .int 0, .ref q2, .ref q3, .int 0, .ref q4, .ref q5, .int 0, .ref q6, .ref q7, .ref q8, .ref q9, .ref q10, .ref q11, .int 0, .int 0, .int 0, .int 0, .int 0, .ref q12, .ref q13, .int 0, .ref q14, .ref q15, .ref q16, .ref q17, .int 0, .ref q18, .ref q19, .ref q20, .ref q21, .ref q22, .int 0, .ref q23, .int 0, .int 0, .long 0, .ref q24, .null, .int 0, .int 0, .int 0, .null, .null, .null, .null, .null, .null, .null, .int 0, .null, .null, .null, .null, .null, .null, .int 0, .int 0, .int 0, .null, .null, .null, .null, .int 0, .null, .null, .null, .null])) :: R24) := hD
  refine lv_aload_n hx hb dX12_init_208 rfl (lv_at hl 0 rfl) ?_
  refine lv_bipush (v := 30) hx hb dX12_init_209 (by decide +kernel) ?_
  refine va_newa (atype := .int) (ty := .int) (a0 := (30, .inl (fun _ => 0))) hx hb (hts (.arrayClass .int) (List.mem_cons_of_mem _ (List.mem_append_left _ (List.mem_append_left _ (List.mem_of_getElem? (i := 3) rfl))))) rfl hK hP hD hS hA (fun _ => vp_cell_i _ _ _) (by decide +kernel) (N' := 30) (by decide +kernel) (show 30 * 4 ≤ 536870912 by omega) (Nat.le_of_ble_eq_true rfl) (Nat.le_of_ble_eq_true rfl) dX12_init_211 ?_
  clear hK hP hD hS
  intro q25 cA25 H hK hP hD hS
  refine W.widen (k := 25) (n := 14075) (Nat.le_of_ble_eq_true rfl) (Nat.le_of_ble_eq_true rfl) ?_
  replace hP := rotP hP
  replace hD := rotD hD
  replace hK := rotK hK
  obtain ⟨R25, hR25⟩ : ∃ z : va_W, z = (q25, .inl (cA25, 30, .inl (fun _ => 0))) :: R24 := ⟨_, rfl⟩
  obtain ⟨T25, hT25⟩ : ∃ z : List (ClassId × FieldType), z = (cA25, .int) :: T24 := ⟨_, rfl⟩
  rw [← hR25] at hP hD
  rw [← hT25] at hK
  refine va_putF (D := D) (ci := 12) (v := .ref q25) (ty := .array .int) (C := RX12) (T := TX12) (N := 69) hx hb hts (fun _ h => List.mem_cons_of_mem _ (List.mem_append_right _ h)) tyX12 tyX12_ok nmX12 hown hK hP hD hS 0 rfl rfl 39 (by decide +kernel) (hts (.fieldLink RX12 83 "TalePlayModel" "nextIn" "[I") (List.mem_cons_of_mem _ (List.mem_append_left _ (List.mem_append_right _ (List.mem_append_left _ (List.mem_of_getElem? (i := 13) rfl)))))) (fun _ h9 => h9) rfl hin rfl (by decide +kernel) rfl rfl (Nat.le_of_ble_eq_true rfl) dX12_init_213 ?_
  clear hP hD hS
  intro H locs hP hD hS
  replace hP : va_P D vwCl ((m0, .inr (12, [.int 0, .ref q1, .int 0, .ref q2, .ref q3, .int 0, .ref q4, .ref q5, .int 0, .ref q6, .ref q7, .ref q8, .ref q9, .ref q10, .ref q11, .int 0, .int 0, .int 0, .int 0, .int 0, .ref q12, .ref q13, .int 0, .ref q14, .ref q15, .ref q16, .ref q17, .int 0, .ref q18, .ref q19, .ref q20, .ref q21, .ref q22, .int 0, .ref q23, .int 0, .int 0, .long 0, .ref q24, .ref q25, .int 0, .int 0, .int 0, .null, .null, .null, .null, .null, .null, .null, .int 0, .null, .null, .null, .null, .null, .null, .int 0, .int 0, .int 0, .null, .null, .null, .null, .int 0, .null, .null, .null, .null])) :: R25) H := hP
  replace hD : va_D A ((m0, .inr (12, [.int 0, .ref q1, .int 0, .ref q2, .ref q3, .int 0, .ref q4, .ref q5, .int 0, .ref q6, .ref q7, .ref q8, .ref q9, .ref q10, .ref q11, .int 0, .int 0, .int 0, .int 0, .int 0, .ref q12, .ref q13, .int 0, .ref q14, .ref q15, .ref q16, .ref q17, .int 0, .ref q18, .ref q19, .ref q20, .ref q21, .ref q22, .int 0, .ref q23, .int 0, .int 0, .long 0, .ref q24, .ref q25, .int 0, .int 0, .int 0, .null, .null, .null, .null, .null, .null, .null, .int 0, .null, .null, .null, .null, .null, .null, .int 0, .int 0, .int 0, .null, .null, .null, .null, .int 0, .null, .null, .null, .null])) :: R25) := hD
  refine lv_aload_n hx hb dX12_init_216 rfl (lv_at hl 0 rfl) ?_
  refine lv_bipush (v := 30) hx hb dX12_init_217 (by decide +kernel) ?_
  refine va_newa (atype := .boolean) (ty := .boolean) (a0 := (30, .inl (fun _ => 0))) hx hb (hts (.arrayClass .boolean) (List.mem_cons_of_mem _ (List.mem_append_left _ (List.mem_append_left _ (List.mem_of_getElem? (i := 13) rfl))))) rfl hK hP hD hS hA (fun _ => vp_cell_i _ _ _) (by decide +kernel) (N' := 30) (by decide +kernel) (show 30 * 1 ≤ 536870912 by omega) (Nat.le_of_ble_eq_true rfl) (Nat.le_of_ble_eq_true rfl) dX12_init_219 ?_
  clear hK hP hD hS
  intro q26 cA26 H hK hP hD hS
  refine W.widen (k := 26) (n := 14105) (Nat.le_of_ble_eq_true rfl) (Nat.le_of_ble_eq_true rfl) ?_
  replace hP := rotP hP
  replace hD := rotD hD
  replace hK := rotK hK
  obtain ⟨R26, hR26⟩ : ∃ z : va_W, z = (q26, .inl (cA26, 30, .inl (fun _ => 0))) :: R25 := ⟨_, rfl⟩
  obtain ⟨T26, hT26⟩ : ∃ z : List (ClassId × FieldType), z = (cA26, .boolean) :: T25 := ⟨_, rfl⟩
  rw [← hR26] at hP hD
  rw [← hT26] at hK
  refine va_putF (D := D) (ci := 12) (v := .ref q26) (ty := .array .boolean) (C := RX12) (T := TX12) (N := 69) hx hb hts (fun _ h => List.mem_cons_of_mem _ (List.mem_append_right _ h)) tyX12 tyX12_ok nmX12 hown hK hP hD hS 0 rfl rfl 43 (by decide +kernel) (hts (.fieldLink RX12 86 "TalePlayModel" "seen" "[Z") (List.mem_cons_of_mem _ (List.mem_append_left _ (List.mem_append_right _ (List.mem_append_left _ (List.mem_of_getElem? (i := 14) rfl)))))) (fun _ h9 => h9) rfl hin rfl (by decide +kernel) rfl rfl (Nat.le_of_ble_eq_true rfl) dX12_init_221 ?_
  clear hP hD hS
  intro H locs hP hD hS
  replace hP : va_P D vwCl ((m0, .inr (12, [.int 0, .ref q1, .int 0, .ref q2, .ref q3, .int 0, .ref q4, .ref q5, .int 0, .ref q6, .ref q7, .ref q8, .ref q9, .ref q10, .ref q11, .int 0, .int 0, .int 0, .int 0, .int 0, .ref q12, .ref q13, .int 0, .ref q14, .ref q15, .ref q16, .ref q17, .int 0, .ref q18, .ref q19, .ref q20, .ref q21, .ref q22, .int 0, .ref q23, .int 0, .int 0, .long 0, .ref q24, .ref q25, .int 0, .int 0, .int 0, .ref q26, .null, .null, .null, .null, .null, .null, .int 0, .null, .null, .null, .null, .null, .null, .int 0, .int 0, .int 0, .null, .null, .null, .null, .int 0, .null, .null, .null, .null])) :: R26) H := hP
  replace hD : va_D A ((m0, .inr (12, [.int 0, .ref q1, .int 0, .ref q2, .ref q3, .int 0, .ref q4, .ref q5, .int 0, .ref q6, .ref q7, .ref q8, .ref q9, .ref q10, .ref q11, .int 0, .int 0, .int 0, .int 0, .int 0, .ref q12, .ref q13, .int 0, .ref q14, .ref q15, .ref q16, .ref q17, .int 0, .ref q18, .ref q19, .ref q20, .ref q21, .ref q22, .int 0, .ref q23, .int 0, .int 0, .long 0, .ref q24, .ref q25, .int 0, .int 0, .int 0, .ref q26, .null, .null, .null, .null, .null, .null, .int 0, .null, .null, .null, .null, .null, .null, .int 0, .int 0, .int 0, .null, .null, .null, .null, .int 0, .null, .null, .null, .null])) :: R26) := hD
  refine lv_aload_n hx hb dX12_init_224 rfl (lv_at hl 0 rfl) ?_
  refine lv_bipush (v := 30) hx hb dX12_init_225 (by decide +kernel) ?_
  refine va_newa (atype := .boolean) (ty := .boolean) (a0 := (30, .inl (fun _ => 0))) hx hb (hts (.arrayClass .boolean) (List.mem_cons_of_mem _ (List.mem_append_left _ (List.mem_append_left _ (List.mem_of_getElem? (i := 13) rfl))))) rfl hK hP hD hS hA (fun _ => vp_cell_i _ _ _) (by decide +kernel) (N' := 30) (by decide +kernel) (show 30 * 1 ≤ 536870912 by omega) (Nat.le_of_ble_eq_true rfl) (Nat.le_of_ble_eq_true rfl) dX12_init_227 ?_
  clear hK hP hD hS
  intro q27 cA27 H hK hP hD hS
  refine W.widen (k := 27) (n := 14135) (Nat.le_of_ble_eq_true rfl) (Nat.le_of_ble_eq_true rfl) ?_
  replace hP := rotP hP
  replace hD := rotD hD
  replace hK := rotK hK
  obtain ⟨R27, hR27⟩ : ∃ z : va_W, z = (q27, .inl (cA27, 30, .inl (fun _ => 0))) :: R26 := ⟨_, rfl⟩
  obtain ⟨T27, hT27⟩ : ∃ z : List (ClassId × FieldType), z = (cA27, .boolean) :: T26 := ⟨_, rfl⟩
  rw [← hR27] at hP hD
  rw [← hT27] at hK
  refine va_putF (D := D) (ci := 12) (v := .ref q27) (ty := .array .boolean) (C := RX12) (T := TX12) (N := 69) hx hb hts (fun _ h => List.mem_cons_of_mem _ (List.mem_append_right _ h)) tyX12 tyX12_ok nmX12 hown hK hP hD hS 0 rfl rfl 44 (by decide +kernel) (hts (.fieldLink RX12 89 "TalePlayModel" "reached" "[Z") (List.mem_cons_of_mem _ (List.mem_append_left _ (List.mem_append_right _ (List.mem_append_left _ (List.mem_of_getElem? (i := 15) rfl)))))) (fun _ h9 => h9) rfl hin rfl (by decide +kernel) rfl rfl (Nat.le_of_ble_eq_true rfl) dX12_init_229 ?_
  clear hP hD hS
  intro H locs hP hD hS
  replace hP : va_P D vwCl ((m0, .inr (12, [.int 0, .ref q1, .int 0, .ref q2, .ref q3, .int 0, .ref q4, .ref q5, .int 0, .ref q6, .ref q7, .ref q8, .ref q9, .ref q10, .ref q11, .int 0, .int 0, .int 0, .int 0, .int 0, .ref q12, .ref q13, .int 0, .ref q14, .ref q15, .ref q16, .ref q17, .int 0, .ref q18, .ref q19, .ref q20, .ref q21, .ref q22, .int 0, .ref q23, .int 0, .int 0, .long 0, .ref q24, .ref q25, .int 0, .int 0, .int 0, .ref q26, .ref q27, .null, .null, .null, .null, .null, .int 0, .null, .null, .null, .null, .null, .null, .int 0, .int 0, .int 0, .null, .null, .null, .null, .int 0, .null, .null, .null, .null])) :: R27) H := hP
  replace hD : va_D A ((m0, .inr (12, [.int 0, .ref q1, .int 0, .ref q2, .ref q3, .int 0, .ref q4, .ref q5, .int 0, .ref q6, .ref q7, .ref q8, .ref q9, .ref q10, .ref q11, .int 0, .int 0, .int 0, .int 0, .int 0, .ref q12, .ref q13, .int 0, .ref q14, .ref q15, .ref q16, .ref q17, .int 0, .ref q18, .ref q19, .ref q20, .ref q21, .ref q22, .int 0, .ref q23, .int 0, .int 0, .long 0, .ref q24, .ref q25, .int 0, .int 0, .int 0, .ref q26, .ref q27, .null, .null, .null, .null, .null, .int 0, .null, .null, .null, .null, .null, .null, .int 0, .int 0, .int 0, .null, .null, .null, .null, .int 0, .null, .null, .null, .null])) :: R27) := hD
  refine lv_aload_n hx hb dX12_init_232 rfl (lv_at hl 0 rfl) ?_
  refine lv_bipush (v := 30) hx hb dX12_init_233 (by decide +kernel) ?_
  refine va_newa (atype := .boolean) (ty := .boolean) (a0 := (30, .inl (fun _ => 0))) hx hb (hts (.arrayClass .boolean) (List.mem_cons_of_mem _ (List.mem_append_left _ (List.mem_append_left _ (List.mem_of_getElem? (i := 13) rfl))))) rfl hK hP hD hS hA (fun _ => vp_cell_i _ _ _) (by decide +kernel) (N' := 30) (by decide +kernel) (show 30 * 1 ≤ 536870912 by omega) (Nat.le_of_ble_eq_true rfl) (Nat.le_of_ble_eq_true rfl) dX12_init_235 ?_
  clear hK hP hD hS
  intro q28 cA28 H hK hP hD hS
  refine W.widen (k := 28) (n := 14165) (Nat.le_of_ble_eq_true rfl) (Nat.le_of_ble_eq_true rfl) ?_
  replace hP := rotP hP
  replace hD := rotD hD
  replace hK := rotK hK
  obtain ⟨R28, hR28⟩ : ∃ z : va_W, z = (q28, .inl (cA28, 30, .inl (fun _ => 0))) :: R27 := ⟨_, rfl⟩
  obtain ⟨T28, hT28⟩ : ∃ z : List (ClassId × FieldType), z = (cA28, .boolean) :: T27 := ⟨_, rfl⟩
  rw [← hR28] at hP hD
  rw [← hT28] at hK
  refine va_putF (D := D) (ci := 12) (v := .ref q28) (ty := .array .boolean) (C := RX12) (T := TX12) (N := 69) hx hb hts (fun _ h => List.mem_cons_of_mem _ (List.mem_append_right _ h)) tyX12 tyX12_ok nmX12 hown hK hP hD hS 0 rfl rfl 45 (by decide +kernel) (hts (.fieldLink RX12 92 "TalePlayModel" "lit" "[Z") (List.mem_cons_of_mem _ (List.mem_append_left _ (List.mem_append_right _ (List.mem_append_right _ (List.mem_append_left _ (List.mem_of_getElem? (i := 0) rfl))))))) (fun _ h9 => h9) rfl hin rfl (by decide +kernel) rfl rfl (Nat.le_of_ble_eq_true rfl) dX12_init_237 ?_
  clear hP hD hS
  intro H locs hP hD hS
  replace hP : va_P D vwCl ((m0, .inr (12, [.int 0, .ref q1, .int 0, .ref q2, .ref q3, .int 0, .ref q4, .ref q5, .int 0, .ref q6, .ref q7, .ref q8, .ref q9, .ref q10, .ref q11, .int 0, .int 0, .int 0, .int 0, .int 0, .ref q12, .ref q13, .int 0, .ref q14, .ref q15, .ref q16, .ref q17, .int 0, .ref q18, .ref q19, .ref q20, .ref q21, .ref q22, .int 0, .ref q23, .int 0, .int 0, .long 0, .ref q24, .ref q25, .int 0, .int 0, .int 0, .ref q26, .ref q27, .ref q28, .null, .null, .null, .null, .int 0, .null, .null, .null, .null, .null, .null, .int 0, .int 0, .int 0, .null, .null, .null, .null, .int 0, .null, .null, .null, .null])) :: R28) H := hP
  replace hD : va_D A ((m0, .inr (12, [.int 0, .ref q1, .int 0, .ref q2, .ref q3, .int 0, .ref q4, .ref q5, .int 0, .ref q6, .ref q7, .ref q8, .ref q9, .ref q10, .ref q11, .int 0, .int 0, .int 0, .int 0, .int 0, .ref q12, .ref q13, .int 0, .ref q14, .ref q15, .ref q16, .ref q17, .int 0, .ref q18, .ref q19, .ref q20, .ref q21, .ref q22, .int 0, .ref q23, .int 0, .int 0, .long 0, .ref q24, .ref q25, .int 0, .int 0, .int 0, .ref q26, .ref q27, .ref q28, .null, .null, .null, .null, .int 0, .null, .null, .null, .null, .null, .null, .int 0, .int 0, .int 0, .null, .null, .null, .null, .int 0, .null, .null, .null, .null])) :: R28) := hD
  refine lv_aload_n hx hb dX12_init_240 rfl (lv_at hl 0 rfl) ?_
  refine lv_bipush (v := 30) hx hb dX12_init_241 (by decide +kernel) ?_
  refine va_newa (atype := .boolean) (ty := .boolean) (a0 := (30, .inl (fun _ => 0))) hx hb (hts (.arrayClass .boolean) (List.mem_cons_of_mem _ (List.mem_append_left _ (List.mem_append_left _ (List.mem_of_getElem? (i := 13) rfl))))) rfl hK hP hD hS hA (fun _ => vp_cell_i _ _ _) (by decide +kernel) (N' := 30) (by decide +kernel) (show 30 * 1 ≤ 536870912 by omega) (Nat.le_of_ble_eq_true rfl) (Nat.le_of_ble_eq_true rfl) dX12_init_243 ?_
  clear hK hP hD hS
  intro q29 cA29 H hK hP hD hS
  refine W.widen (k := 29) (n := 14195) (Nat.le_of_ble_eq_true rfl) (Nat.le_of_ble_eq_true rfl) ?_
  replace hP := rotP hP
  replace hD := rotD hD
  replace hK := rotK hK
  obtain ⟨R29, hR29⟩ : ∃ z : va_W, z = (q29, .inl (cA29, 30, .inl (fun _ => 0))) :: R28 := ⟨_, rfl⟩
  obtain ⟨T29, hT29⟩ : ∃ z : List (ClassId × FieldType), z = (cA29, .boolean) :: T28 := ⟨_, rfl⟩
  rw [← hR29] at hP hD
  rw [← hT29] at hK
  refine va_putF (D := D) (ci := 12) (v := .ref q29) (ty := .array .boolean) (C := RX12) (T := TX12) (N := 69) hx hb hts (fun _ h => List.mem_cons_of_mem _ (List.mem_append_right _ h)) tyX12 tyX12_ok nmX12 hown hK hP hD hS 0 rfl rfl 46 (by decide +kernel) (hts (.fieldLink RX12 95 "TalePlayModel" "glass" "[Z") (List.mem_cons_of_mem _ (List.mem_append_left _ (List.mem_append_right _ (List.mem_append_right _ (List.mem_append_left _ (List.mem_of_getElem? (i := 1) rfl))))))) (fun _ h9 => h9) rfl hin rfl (by decide +kernel) rfl rfl (Nat.le_of_ble_eq_true rfl) dX12_init_245 ?_
  clear hP hD hS
  intro H locs hP hD hS
  replace hP : va_P D vwCl ((m0, .inr (12, [.int 0, .ref q1, .int 0, .ref q2, .ref q3, .int 0, .ref q4, .ref q5, .int 0, .ref q6, .ref q7, .ref q8, .ref q9, .ref q10, .ref q11, .int 0, .int 0, .int 0, .int 0, .int 0, .ref q12, .ref q13, .int 0, .ref q14, .ref q15, .ref q16, .ref q17, .int 0, .ref q18, .ref q19, .ref q20, .ref q21, .ref q22, .int 0, .ref q23, .int 0, .int 0, .long 0, .ref q24, .ref q25, .int 0, .int 0, .int 0, .ref q26, .ref q27, .ref q28, .ref q29, .null, .null, .null, .int 0, .null, .null, .null, .null, .null, .null, .int 0, .int 0, .int 0, .null, .null, .null, .null, .int 0, .null, .null, .null, .null])) :: R29) H := hP
  replace hD : va_D A ((m0, .inr (12, [.int 0, .ref q1, .int 0, .ref q2, .ref q3, .int 0, .ref q4, .ref q5, .int 0, .ref q6, .ref q7, .ref q8, .ref q9, .ref q10, .ref q11, .int 0, .int 0, .int 0, .int 0, .int 0, .ref q12, .ref q13, .int 0, .ref q14, .ref q15, .ref q16, .ref q17, .int 0, .ref q18, .ref q19, .ref q20, .ref q21, .ref q22, .int 0, .ref q23, .int 0, .int 0, .long 0, .ref q24, .ref q25, .int 0, .int 0, .int 0, .ref q26, .ref q27, .ref q28, .ref q29, .null, .null, .null, .int 0, .null, .null, .null, .null, .null, .null, .int 0, .int 0, .int 0, .null, .null, .null, .null, .int 0, .null, .null, .null, .null])) :: R29) := hD
  refine lv_aload_n hx hb dX12_init_248 rfl (lv_at hl 0 rfl) ?_
  refine lv_bipush (v := 30) hx hb dX12_init_249 (by decide +kernel) ?_
  refine va_newa (atype := .boolean) (ty := .boolean) (a0 := (30, .inl (fun _ => 0))) hx hb (hts (.arrayClass .boolean) (List.mem_cons_of_mem _ (List.mem_append_left _ (List.mem_append_left _ (List.mem_of_getElem? (i := 13) rfl))))) rfl hK hP hD hS hA (fun _ => vp_cell_i _ _ _) (by decide +kernel) (N' := 30) (by decide +kernel) (show 30 * 1 ≤ 536870912 by omega) (Nat.le_of_ble_eq_true rfl) (Nat.le_of_ble_eq_true rfl) dX12_init_251 ?_
  clear hK hP hD hS
  intro q30 cA30 H hK hP hD hS
  refine W.widen (k := 30) (n := 14225) (Nat.le_of_ble_eq_true rfl) (Nat.le_of_ble_eq_true rfl) ?_
  replace hP := rotP hP
  replace hD := rotD hD
  replace hK := rotK hK
  obtain ⟨R30, hR30⟩ : ∃ z : va_W, z = (q30, .inl (cA30, 30, .inl (fun _ => 0))) :: R29 := ⟨_, rfl⟩
  obtain ⟨T30, hT30⟩ : ∃ z : List (ClassId × FieldType), z = (cA30, .boolean) :: T29 := ⟨_, rfl⟩
  rw [← hR30] at hP hD
  rw [← hT30] at hK
  refine va_putF (D := D) (ci := 12) (v := .ref q30) (ty := .array .boolean) (C := RX12) (T := TX12) (N := 69) hx hb hts (fun _ h => List.mem_cons_of_mem _ (List.mem_append_right _ h)) tyX12 tyX12_ok nmX12 hown hK hP hD hS 0 rfl rfl 47 (by decide +kernel) (hts (.fieldLink RX12 98 "TalePlayModel" "isBox" "[Z") (List.mem_cons_of_mem _ (List.mem_append_left _ (List.mem_append_right _ (List.mem_append_right _ (List.mem_append_left _ (List.mem_of_getElem? (i := 2) rfl))))))) (fun _ h9 => h9) rfl hin rfl (by decide +kernel) rfl rfl (Nat.le_of_ble_eq_true rfl) dX12_init_253 ?_
  clear hP hD hS
  intro H locs hP hD hS
  replace hP : va_P D vwCl ((m0, .inr (12, [.int 0, .ref q1, .int 0, .ref q2, .ref q3, .int 0, .ref q4, .ref q5, .int 0, .ref q6, .ref q7, .ref q8, .ref q9, .ref q10, .ref q11, .int 0, .int 0, .int 0, .int 0, .int 0, .ref q12, .ref q13, .int 0, .ref q14, .ref q15, .ref q16, .ref q17, .int 0, .ref q18, .ref q19, .ref q20, .ref q21, .ref q22, .int 0, .ref q23, .int 0, .int 0, .long 0, .ref q24, .ref q25, .int 0, .int 0, .int 0, .ref q26, .ref q27, .ref q28, .ref q29, .ref q30, .null, .null, .int 0, .null, .null, .null, .null, .null, .null, .int 0, .int 0, .int 0, .null, .null, .null, .null, .int 0, .null, .null, .null, .null])) :: R30) H := hP
  replace hD : va_D A ((m0, .inr (12, [.int 0, .ref q1, .int 0, .ref q2, .ref q3, .int 0, .ref q4, .ref q5, .int 0, .ref q6, .ref q7, .ref q8, .ref q9, .ref q10, .ref q11, .int 0, .int 0, .int 0, .int 0, .int 0, .ref q12, .ref q13, .int 0, .ref q14, .ref q15, .ref q16, .ref q17, .int 0, .ref q18, .ref q19, .ref q20, .ref q21, .ref q22, .int 0, .ref q23, .int 0, .int 0, .long 0, .ref q24, .ref q25, .int 0, .int 0, .int 0, .ref q26, .ref q27, .ref q28, .ref q29, .ref q30, .null, .null, .int 0, .null, .null, .null, .null, .null, .null, .int 0, .int 0, .int 0, .null, .null, .null, .null, .int 0, .null, .null, .null, .null])) :: R30) := hD
  refine lv_aload_n hx hb dX12_init_256 rfl (lv_at hl 0 rfl) ?_
  refine lv_bipush (v := 30) hx hb dX12_init_257 (by decide +kernel) ?_
  refine va_newa (atype := .boolean) (ty := .boolean) (a0 := (30, .inl (fun _ => 0))) hx hb (hts (.arrayClass .boolean) (List.mem_cons_of_mem _ (List.mem_append_left _ (List.mem_append_left _ (List.mem_of_getElem? (i := 13) rfl))))) rfl hK hP hD hS hA (fun _ => vp_cell_i _ _ _) (by decide +kernel) (N' := 30) (by decide +kernel) (show 30 * 1 ≤ 536870912 by omega) (Nat.le_of_ble_eq_true rfl) (Nat.le_of_ble_eq_true rfl) dX12_init_259 ?_
  clear hK hP hD hS
  intro q31 cA31 H hK hP hD hS
  refine W.widen (k := 31) (n := 14255) (Nat.le_of_ble_eq_true rfl) (Nat.le_of_ble_eq_true rfl) ?_
  replace hP := rotP hP
  replace hD := rotD hD
  replace hK := rotK hK
  obtain ⟨R31, hR31⟩ : ∃ z : va_W, z = (q31, .inl (cA31, 30, .inl (fun _ => 0))) :: R30 := ⟨_, rfl⟩
  obtain ⟨T31, hT31⟩ : ∃ z : List (ClassId × FieldType), z = (cA31, .boolean) :: T30 := ⟨_, rfl⟩
  rw [← hR31] at hP hD
  rw [← hT31] at hK
  refine va_putF (D := D) (ci := 12) (v := .ref q31) (ty := .array .boolean) (C := RX12) (T := TX12) (N := 69) hx hb hts (fun _ h => List.mem_cons_of_mem _ (List.mem_append_right _ h)) tyX12 tyX12_ok nmX12 hown hK hP hD hS 0 rfl rfl 48 (by decide +kernel) (hts (.fieldLink RX12 101 "TalePlayModel" "isRoom" "[Z") (List.mem_cons_of_mem _ (List.mem_append_left _ (List.mem_append_right _ (List.mem_append_right _ (List.mem_append_left _ (List.mem_of_getElem? (i := 3) rfl))))))) (fun _ h9 => h9) rfl hin rfl (by decide +kernel) rfl rfl (Nat.le_of_ble_eq_true rfl) dX12_init_261 ?_
  clear hP hD hS
  intro H locs hP hD hS
  replace hP : va_P D vwCl ((m0, .inr (12, [.int 0, .ref q1, .int 0, .ref q2, .ref q3, .int 0, .ref q4, .ref q5, .int 0, .ref q6, .ref q7, .ref q8, .ref q9, .ref q10, .ref q11, .int 0, .int 0, .int 0, .int 0, .int 0, .ref q12, .ref q13, .int 0, .ref q14, .ref q15, .ref q16, .ref q17, .int 0, .ref q18, .ref q19, .ref q20, .ref q21, .ref q22, .int 0, .ref q23, .int 0, .int 0, .long 0, .ref q24, .ref q25, .int 0, .int 0, .int 0, .ref q26, .ref q27, .ref q28, .ref q29, .ref q30, .ref q31, .null, .int 0, .null, .null, .null, .null, .null, .null, .int 0, .int 0, .int 0, .null, .null, .null, .null, .int 0, .null, .null, .null, .null])) :: R31) H := hP
  replace hD : va_D A ((m0, .inr (12, [.int 0, .ref q1, .int 0, .ref q2, .ref q3, .int 0, .ref q4, .ref q5, .int 0, .ref q6, .ref q7, .ref q8, .ref q9, .ref q10, .ref q11, .int 0, .int 0, .int 0, .int 0, .int 0, .ref q12, .ref q13, .int 0, .ref q14, .ref q15, .ref q16, .ref q17, .int 0, .ref q18, .ref q19, .ref q20, .ref q21, .ref q22, .int 0, .ref q23, .int 0, .int 0, .long 0, .ref q24, .ref q25, .int 0, .int 0, .int 0, .ref q26, .ref q27, .ref q28, .ref q29, .ref q30, .ref q31, .null, .int 0, .null, .null, .null, .null, .null, .null, .int 0, .int 0, .int 0, .null, .null, .null, .null, .int 0, .null, .null, .null, .null])) :: R31) := hD
  refine lv_aload_n hx hb dX12_init_264 rfl (lv_at hl 0 rfl) ?_
  refine lv_bipush (v := 30) hx hb dX12_init_265 (by decide +kernel) ?_
  refine va_newa (atype := .boolean) (ty := .boolean) (a0 := (30, .inl (fun _ => 0))) hx hb (hts (.arrayClass .boolean) (List.mem_cons_of_mem _ (List.mem_append_left _ (List.mem_append_left _ (List.mem_of_getElem? (i := 13) rfl))))) rfl hK hP hD hS hA (fun _ => vp_cell_i _ _ _) (by decide +kernel) (N' := 30) (by decide +kernel) (show 30 * 1 ≤ 536870912 by omega) (Nat.le_of_ble_eq_true rfl) (Nat.le_of_ble_eq_true rfl) dX12_init_267 ?_
  clear hK hP hD hS
  intro q32 cA32 H hK hP hD hS
  refine W.widen (k := 32) (n := 14285) (Nat.le_of_ble_eq_true rfl) (Nat.le_of_ble_eq_true rfl) ?_
  replace hP := rotP hP
  replace hD := rotD hD
  replace hK := rotK hK
  obtain ⟨R32, hR32⟩ : ∃ z : va_W, z = (q32, .inl (cA32, 30, .inl (fun _ => 0))) :: R31 := ⟨_, rfl⟩
  obtain ⟨T32, hT32⟩ : ∃ z : List (ClassId × FieldType), z = (cA32, .boolean) :: T31 := ⟨_, rfl⟩
  rw [← hR32] at hP hD
  rw [← hT32] at hK
  refine va_putF (D := D) (ci := 12) (v := .ref q32) (ty := .array .boolean) (C := RX12) (T := TX12) (N := 69) hx hb hts (fun _ h => List.mem_cons_of_mem _ (List.mem_append_right _ h)) tyX12 tyX12_ok nmX12 hown hK hP hD hS 0 rfl rfl 49 (by decide +kernel) (hts (.fieldLink RX12 104 "TalePlayModel" "isDoor" "[Z") (List.mem_cons_of_mem _ (List.mem_append_left _ (List.mem_append_right _ (List.mem_append_right _ (List.mem_append_left _ (List.mem_of_getElem? (i := 4) rfl))))))) (fun _ h9 => h9) rfl hin rfl (by decide +kernel) rfl rfl (Nat.le_of_ble_eq_true rfl) dX12_init_269 ?_
  clear hP hD hS
  intro H locs hP hD hS
  replace hP : va_P D vwCl ((m0, .inr (12, [.int 0, .ref q1, .int 0, .ref q2, .ref q3, .int 0, .ref q4, .ref q5, .int 0, .ref q6, .ref q7, .ref q8, .ref q9, .ref q10, .ref q11, .int 0, .int 0, .int 0, .int 0, .int 0, .ref q12, .ref q13, .int 0, .ref q14, .ref q15, .ref q16, .ref q17, .int 0, .ref q18, .ref q19, .ref q20, .ref q21, .ref q22, .int 0, .ref q23, .int 0, .int 0, .long 0, .ref q24, .ref q25, .int 0, .int 0, .int 0, .ref q26, .ref q27, .ref q28, .ref q29, .ref q30, .ref q31, .ref q32, .int 0, .null, .null, .null, .null, .null, .null, .int 0, .int 0, .int 0, .null, .null, .null, .null, .int 0, .null, .null, .null, .null])) :: R32) H := hP
  replace hD : va_D A ((m0, .inr (12, [.int 0, .ref q1, .int 0, .ref q2, .ref q3, .int 0, .ref q4, .ref q5, .int 0, .ref q6, .ref q7, .ref q8, .ref q9, .ref q10, .ref q11, .int 0, .int 0, .int 0, .int 0, .int 0, .ref q12, .ref q13, .int 0, .ref q14, .ref q15, .ref q16, .ref q17, .int 0, .ref q18, .ref q19, .ref q20, .ref q21, .ref q22, .int 0, .ref q23, .int 0, .int 0, .long 0, .ref q24, .ref q25, .int 0, .int 0, .int 0, .ref q26, .ref q27, .ref q28, .ref q29, .ref q30, .ref q31, .ref q32, .int 0, .null, .null, .null, .null, .null, .null, .int 0, .int 0, .int 0, .null, .null, .null, .null, .int 0, .null, .null, .null, .null])) :: R32) := hD
  refine lv_aload_n hx hb dX12_init_272 rfl (lv_at hl 0 rfl) ?_
  refine lv_sipush (v := 9030) hx hb dX12_init_273 (by decide +kernel) ?_
  refine va_newa (atype := .byte) (ty := .byte) (a0 := (9030, .inl (fun _ => 0))) hx hb (hts (.arrayClass .byte) (List.mem_cons_of_mem _ (List.mem_append_left _ (List.mem_append_right _ (List.mem_append_right _ (List.mem_append_left _ (List.mem_of_getElem? (i := 5) rfl))))))) rfl hK hP hD hS hA (fun _ => vp_cell_i _ _ _) (by decide +kernel) (N' := 9030) (by decide +kernel) (show 9030 * 1 ≤ 536870912 by omega) (Nat.le_of_ble_eq_true rfl) (Nat.le_of_ble_eq_true rfl) dX12_init_276 ?_
  clear hK hP hD hS
  intro q33 cA33 H hK hP hD hS
  refine W.widen (k := 33) (n := 23315) (Nat.le_of_ble_eq_true rfl) (Nat.le_of_ble_eq_true rfl) ?_
  replace hP := rotP hP
  replace hD := rotD hD
  replace hK := rotK hK
  obtain ⟨R33, hR33⟩ : ∃ z : va_W, z = (q33, .inl (cA33, 9030, .inl (fun _ => 0))) :: R32 := ⟨_, rfl⟩
  obtain ⟨T33, hT33⟩ : ∃ z : List (ClassId × FieldType), z = (cA33, .byte) :: T32 := ⟨_, rfl⟩
  rw [← hR33] at hP hD
  rw [← hT33] at hK
  refine va_putF (D := D) (ci := 12) (v := .ref q33) (ty := .array .byte) (C := RX12) (T := TX12) (N := 69) hx hb hts (fun _ h => List.mem_cons_of_mem _ (List.mem_append_right _ h)) tyX12 tyX12_ok nmX12 hown hK hP hD hS 0 rfl rfl 51 (by decide +kernel) (hts (.fieldLink RX12 107 "TalePlayModel" "stateForm" "[B") (List.mem_cons_of_mem _ (List.mem_append_left _ (List.mem_append_right _ (List.mem_append_right _ (List.mem_append_left _ (List.mem_of_getElem? (i := 6) rfl))))))) (fun _ h9 => h9) rfl hin rfl (by decide +kernel) rfl rfl (Nat.le_of_ble_eq_true rfl) dX12_init_278 ?_
  clear hP hD hS
  intro H locs hP hD hS
  replace hP : va_P D vwCl ((m0, .inr (12, [.int 0, .ref q1, .int 0, .ref q2, .ref q3, .int 0, .ref q4, .ref q5, .int 0, .ref q6, .ref q7, .ref q8, .ref q9, .ref q10, .ref q11, .int 0, .int 0, .int 0, .int 0, .int 0, .ref q12, .ref q13, .int 0, .ref q14, .ref q15, .ref q16, .ref q17, .int 0, .ref q18, .ref q19, .ref q20, .ref q21, .ref q22, .int 0, .ref q23, .int 0, .int 0, .long 0, .ref q24, .ref q25, .int 0, .int 0, .int 0, .ref q26, .ref q27, .ref q28, .ref q29, .ref q30, .ref q31, .ref q32, .int 0, .ref q33, .null, .null, .null, .null, .null, .int 0, .int 0, .int 0, .null, .null, .null, .null, .int 0, .null, .null, .null, .null])) :: R33) H := hP
  replace hD : va_D A ((m0, .inr (12, [.int 0, .ref q1, .int 0, .ref q2, .ref q3, .int 0, .ref q4, .ref q5, .int 0, .ref q6, .ref q7, .ref q8, .ref q9, .ref q10, .ref q11, .int 0, .int 0, .int 0, .int 0, .int 0, .ref q12, .ref q13, .int 0, .ref q14, .ref q15, .ref q16, .ref q17, .int 0, .ref q18, .ref q19, .ref q20, .ref q21, .ref q22, .int 0, .ref q23, .int 0, .int 0, .long 0, .ref q24, .ref q25, .int 0, .int 0, .int 0, .ref q26, .ref q27, .ref q28, .ref q29, .ref q30, .ref q31, .ref q32, .int 0, .ref q33, .null, .null, .null, .null, .null, .int 0, .int 0, .int 0, .null, .null, .null, .null, .int 0, .null, .null, .null, .null])) :: R33) := hD
  refine lv_aload_n hx hb dX12_init_281 rfl (lv_at hl 0 rfl) ?_
  refine lv_sipush (v := 9030) hx hb dX12_init_282 (by decide +kernel) ?_
  refine va_newa (atype := .byte) (ty := .byte) (a0 := (9030, .inl (fun _ => 0))) hx hb (hts (.arrayClass .byte) (List.mem_cons_of_mem _ (List.mem_append_left _ (List.mem_append_right _ (List.mem_append_right _ (List.mem_append_left _ (List.mem_of_getElem? (i := 5) rfl))))))) rfl hK hP hD hS hA (fun _ => vp_cell_i _ _ _) (by decide +kernel) (N' := 9030) (by decide +kernel) (show 9030 * 1 ≤ 536870912 by omega) (Nat.le_of_ble_eq_true rfl) (Nat.le_of_ble_eq_true rfl) dX12_init_285 ?_
  clear hK hP hD hS
  intro q34 cA34 H hK hP hD hS
  refine W.widen (k := 34) (n := 32345) (Nat.le_of_ble_eq_true rfl) (Nat.le_of_ble_eq_true rfl) ?_
  replace hP := rotP hP
  replace hD := rotD hD
  replace hK := rotK hK
  obtain ⟨R34, hR34⟩ : ∃ z : va_W, z = (q34, .inl (cA34, 9030, .inl (fun _ => 0))) :: R33 := ⟨_, rfl⟩
  obtain ⟨T34, hT34⟩ : ∃ z : List (ClassId × FieldType), z = (cA34, .byte) :: T33 := ⟨_, rfl⟩
  rw [← hR34] at hP hD
  rw [← hT34] at hK
  refine va_putF (D := D) (ci := 12) (v := .ref q34) (ty := .array .byte) (C := RX12) (T := TX12) (N := 69) hx hb hts (fun _ h => List.mem_cons_of_mem _ (List.mem_append_right _ h)) tyX12 tyX12_ok nmX12 hown hK hP hD hS 0 rfl rfl 52 (by decide +kernel) (hts (.fieldLink RX12 111 "TalePlayModel" "stateAt" "[B") (List.mem_cons_of_mem _ (List.mem_append_left _ (List.mem_append_right _ (List.mem_append_right _ (List.mem_append_left _ (List.mem_of_getElem? (i := 7) rfl))))))) (fun _ h9 => h9) rfl hin rfl (by decide +kernel) rfl rfl (Nat.le_of_ble_eq_true rfl) dX12_init_287 ?_
  clear hP hD hS
  intro H locs hP hD hS
  replace hP : va_P D vwCl ((m0, .inr (12, [.int 0, .ref q1, .int 0, .ref q2, .ref q3, .int 0, .ref q4, .ref q5, .int 0, .ref q6, .ref q7, .ref q8, .ref q9, .ref q10, .ref q11, .int 0, .int 0, .int 0, .int 0, .int 0, .ref q12, .ref q13, .int 0, .ref q14, .ref q15, .ref q16, .ref q17, .int 0, .ref q18, .ref q19, .ref q20, .ref q21, .ref q22, .int 0, .ref q23, .int 0, .int 0, .long 0, .ref q24, .ref q25, .int 0, .int 0, .int 0, .ref q26, .ref q27, .ref q28, .ref q29, .ref q30, .ref q31, .ref q32, .int 0, .ref q33, .ref q34, .null, .null, .null, .null, .int 0, .int 0, .int 0, .null, .null, .null, .null, .int 0, .null, .null, .null, .null])) :: R34) H := hP
  replace hD : va_D A ((m0, .inr (12, [.int 0, .ref q1, .int 0, .ref q2, .ref q3, .int 0, .ref q4, .ref q5, .int 0, .ref q6, .ref q7, .ref q8, .ref q9, .ref q10, .ref q11, .int 0, .int 0, .int 0, .int 0, .int 0, .ref q12, .ref q13, .int 0, .ref q14, .ref q15, .ref q16, .ref q17, .int 0, .ref q18, .ref q19, .ref q20, .ref q21, .ref q22, .int 0, .ref q23, .int 0, .int 0, .long 0, .ref q24, .ref q25, .int 0, .int 0, .int 0, .ref q26, .ref q27, .ref q28, .ref q29, .ref q30, .ref q31, .ref q32, .int 0, .ref q33, .ref q34, .null, .null, .null, .null, .int 0, .int 0, .int 0, .null, .null, .null, .null, .int 0, .null, .null, .null, .null])) :: R34) := hD
  refine lv_aload_n hx hb dX12_init_290 rfl (lv_at hl 0 rfl) ?_
  refine lv_sipush (v := 9030) hx hb dX12_init_291 (by decide +kernel) ?_
  refine va_newa (atype := .byte) (ty := .byte) (a0 := (9030, .inl (fun _ => 0))) hx hb (hts (.arrayClass .byte) (List.mem_cons_of_mem _ (List.mem_append_left _ (List.mem_append_right _ (List.mem_append_right _ (List.mem_append_left _ (List.mem_of_getElem? (i := 5) rfl))))))) rfl hK hP hD hS hA (fun _ => vp_cell_i _ _ _) (by decide +kernel) (N' := 9030) (by decide +kernel) (show 9030 * 1 ≤ 536870912 by omega) (Nat.le_of_ble_eq_true rfl) (Nat.le_of_ble_eq_true rfl) dX12_init_294 ?_
  clear hK hP hD hS
  intro q35 cA35 H hK hP hD hS
  refine W.widen (k := 35) (n := 41375) (Nat.le_of_ble_eq_true rfl) (Nat.le_of_ble_eq_true rfl) ?_
  replace hP := rotP hP
  replace hD := rotD hD
  replace hK := rotK hK
  obtain ⟨R35, hR35⟩ : ∃ z : va_W, z = (q35, .inl (cA35, 9030, .inl (fun _ => 0))) :: R34 := ⟨_, rfl⟩
  obtain ⟨T35, hT35⟩ : ∃ z : List (ClassId × FieldType), z = (cA35, .byte) :: T34 := ⟨_, rfl⟩
  rw [← hR35] at hP hD
  rw [← hT35] at hK
  refine va_putF (D := D) (ci := 12) (v := .ref q35) (ty := .array .byte) (C := RX12) (T := TX12) (N := 69) hx hb hts (fun _ h => List.mem_cons_of_mem _ (List.mem_append_right _ h)) tyX12 tyX12_ok nmX12 hown hK hP hD hS 0 rfl rfl 53 (by decide +kernel) (hts (.fieldLink RX12 114 "TalePlayModel" "stateShut" "[B") (List.mem_cons_of_mem _ (List.mem_append_left _ (List.mem_append_right _ (List.mem_append_right _ (List.mem_append_left _ (List.mem_of_getElem? (i := 8) rfl))))))) (fun _ h9 => h9) rfl hin rfl (by decide +kernel) rfl rfl (Nat.le_of_ble_eq_true rfl) dX12_init_296 ?_
  clear hP hD hS
  intro H locs hP hD hS
  replace hP : va_P D vwCl ((m0, .inr (12, [.int 0, .ref q1, .int 0, .ref q2, .ref q3, .int 0, .ref q4, .ref q5, .int 0, .ref q6, .ref q7, .ref q8, .ref q9, .ref q10, .ref q11, .int 0, .int 0, .int 0, .int 0, .int 0, .ref q12, .ref q13, .int 0, .ref q14, .ref q15, .ref q16, .ref q17, .int 0, .ref q18, .ref q19, .ref q20, .ref q21, .ref q22, .int 0, .ref q23, .int 0, .int 0, .long 0, .ref q24, .ref q25, .int 0, .int 0, .int 0, .ref q26, .ref q27, .ref q28, .ref q29, .ref q30, .ref q31, .ref q32, .int 0, .ref q33, .ref q34, .ref q35, .null, .null, .null, .int 0, .int 0, .int 0, .null, .null, .null, .null, .int 0, .null, .null, .null, .null])) :: R35) H := hP
  replace hD : va_D A ((m0, .inr (12, [.int 0, .ref q1, .int 0, .ref q2, .ref q3, .int 0, .ref q4, .ref q5, .int 0, .ref q6, .ref q7, .ref q8, .ref q9, .ref q10, .ref q11, .int 0, .int 0, .int 0, .int 0, .int 0, .ref q12, .ref q13, .int 0, .ref q14, .ref q15, .ref q16, .ref q17, .int 0, .ref q18, .ref q19, .ref q20, .ref q21, .ref q22, .int 0, .ref q23, .int 0, .int 0, .long 0, .ref q24, .ref q25, .int 0, .int 0, .int 0, .ref q26, .ref q27, .ref q28, .ref q29, .ref q30, .ref q31, .ref q32, .int 0, .ref q33, .ref q34, .ref q35, .null, .null, .null, .int 0, .int 0, .int 0, .null, .null, .null, .null, .int 0, .null, .null, .null, .null])) :: R35) := hD
  refine lv_aload_n hx hb dX12_init_299 rfl (lv_at hl 0 rfl) ?_
  refine lv_sipush (v := 300) hx hb dX12_init_300 (by decide +kernel) ?_
  refine va_newa (atype := .int) (ty := .int) (a0 := (300, .inl (fun _ => 0))) hx hb (hts (.arrayClass .int) (List.mem_cons_of_mem _ (List.mem_append_left _ (List.mem_append_left _ (List.mem_of_getElem? (i := 3) rfl))))) rfl hK hP hD hS hA (fun _ => vp_cell_i _ _ _) (by decide +kernel) (N' := 300) (by decide +kernel) (show 300 * 4 ≤ 536870912 by omega) (Nat.le_of_ble_eq_true rfl) (Nat.le_of_ble_eq_true rfl) dX12_init_303 ?_
  clear hK hP hD hS
  intro q36 cA36 H hK hP hD hS
  refine W.widen (k := 36) (n := 41675) (Nat.le_of_ble_eq_true rfl) (Nat.le_of_ble_eq_true rfl) ?_
  replace hP := rotP hP
  replace hD := rotD hD
  replace hK := rotK hK
  obtain ⟨R36, hR36⟩ : ∃ z : va_W, z = (q36, .inl (cA36, 300, .inl (fun _ => 0))) :: R35 := ⟨_, rfl⟩
  obtain ⟨T36, hT36⟩ : ∃ z : List (ClassId × FieldType), z = (cA36, .int) :: T35 := ⟨_, rfl⟩
  rw [← hR36] at hP hD
  rw [← hT36] at hK
  refine va_putF (D := D) (ci := 12) (v := .ref q36) (ty := .array .int) (C := RX12) (T := TX12) (N := 69) hx hb hts (fun _ h => List.mem_cons_of_mem _ (List.mem_append_right _ h)) tyX12 tyX12_ok nmX12 hown hK hP hD hS 0 rfl rfl 54 (by decide +kernel) (hts (.fieldLink RX12 117 "TalePlayModel" "stateFrom" "[I") (List.mem_cons_of_mem _ (List.mem_append_left _ (List.mem_append_right _ (List.mem_append_right _ (List.mem_append_left _ (List.mem_of_getElem? (i := 9) rfl))))))) (fun _ h9 => h9) rfl hin rfl (by decide +kernel) rfl rfl (Nat.le_of_ble_eq_true rfl) dX12_init_305 ?_
  clear hP hD hS
  intro H locs hP hD hS
  replace hP : va_P D vwCl ((m0, .inr (12, [.int 0, .ref q1, .int 0, .ref q2, .ref q3, .int 0, .ref q4, .ref q5, .int 0, .ref q6, .ref q7, .ref q8, .ref q9, .ref q10, .ref q11, .int 0, .int 0, .int 0, .int 0, .int 0, .ref q12, .ref q13, .int 0, .ref q14, .ref q15, .ref q16, .ref q17, .int 0, .ref q18, .ref q19, .ref q20, .ref q21, .ref q22, .int 0, .ref q23, .int 0, .int 0, .long 0, .ref q24, .ref q25, .int 0, .int 0, .int 0, .ref q26, .ref q27, .ref q28, .ref q29, .ref q30, .ref q31, .ref q32, .int 0, .ref q33, .ref q34, .ref q35, .ref q36, .null, .null, .int 0, .int 0, .int 0, .null, .null, .null, .null, .int 0, .null, .null, .null, .null])) :: R36) H := hP
  replace hD : va_D A ((m0, .inr (12, [.int 0, .ref q1, .int 0, .ref q2, .ref q3, .int 0, .ref q4, .ref q5, .int 0, .ref q6, .ref q7, .ref q8, .ref q9, .ref q10, .ref q11, .int 0, .int 0, .int 0, .int 0, .int 0, .ref q12, .ref q13, .int 0, .ref q14, .ref q15, .ref q16, .ref q17, .int 0, .ref q18, .ref q19, .ref q20, .ref q21, .ref q22, .int 0, .ref q23, .int 0, .int 0, .long 0, .ref q24, .ref q25, .int 0, .int 0, .int 0, .ref q26, .ref q27, .ref q28, .ref q29, .ref q30, .ref q31, .ref q32, .int 0, .ref q33, .ref q34, .ref q35, .ref q36, .null, .null, .int 0, .int 0, .int 0, .null, .null, .null, .null, .int 0, .null, .null, .null, .null])) :: R36) := hD
  refine lv_aload_n hx hb dX12_init_308 rfl (lv_at hl 0 rfl) ?_
  refine lv_sipush (v := 900) hx hb dX12_init_309 (by decide +kernel) ?_
  refine va_newa (atype := .int) (ty := .int) (a0 := (900, .inl (fun _ => 0))) hx hb (hts (.arrayClass .int) (List.mem_cons_of_mem _ (List.mem_append_left _ (List.mem_append_left _ (List.mem_of_getElem? (i := 3) rfl))))) rfl hK hP hD hS hA (fun _ => vp_cell_i _ _ _) (by decide +kernel) (N' := 900) (by decide +kernel) (show 900 * 4 ≤ 536870912 by omega) (Nat.le_of_ble_eq_true rfl) (Nat.le_of_ble_eq_true rfl) dX12_init_312 ?_
  clear hK hP hD hS
  intro q37 cA37 H hK hP hD hS
  refine W.widen (k := 37) (n := 42575) (Nat.le_of_ble_eq_true rfl) (Nat.le_of_ble_eq_true rfl) ?_
  replace hP := rotP hP
  replace hD := rotD hD
  replace hK := rotK hK
  obtain ⟨R37, hR37⟩ : ∃ z : va_W, z = (q37, .inl (cA37, 900, .inl (fun _ => 0))) :: R36 := ⟨_, rfl⟩
  obtain ⟨T37, hT37⟩ : ∃ z : List (ClassId × FieldType), z = (cA37, .int) :: T36 := ⟨_, rfl⟩
  rw [← hR37] at hP hD
  rw [← hT37] at hK
  refine va_putF (D := D) (ci := 12) (v := .ref q37) (ty := .array .int) (C := RX12) (T := TX12) (N := 69) hx hb hts (fun _ h => List.mem_cons_of_mem _ (List.mem_append_right _ h)) tyX12 tyX12_ok nmX12 hown hK hP hD hS 0 rfl rfl 55 (by decide +kernel) (hts (.fieldLink RX12 120 "TalePlayModel" "stateAct" "[I") (List.mem_cons_of_mem _ (List.mem_append_left _ (List.mem_append_right _ (List.mem_append_right _ (List.mem_append_left _ (List.mem_of_getElem? (i := 10) rfl))))))) (fun _ h9 => h9) rfl hin rfl (by decide +kernel) rfl rfl (Nat.le_of_ble_eq_true rfl) dX12_init_314 ?_
  clear hP hD hS
  intro H locs hP hD hS
  replace hP : va_P D vwCl ((m0, .inr (12, [.int 0, .ref q1, .int 0, .ref q2, .ref q3, .int 0, .ref q4, .ref q5, .int 0, .ref q6, .ref q7, .ref q8, .ref q9, .ref q10, .ref q11, .int 0, .int 0, .int 0, .int 0, .int 0, .ref q12, .ref q13, .int 0, .ref q14, .ref q15, .ref q16, .ref q17, .int 0, .ref q18, .ref q19, .ref q20, .ref q21, .ref q22, .int 0, .ref q23, .int 0, .int 0, .long 0, .ref q24, .ref q25, .int 0, .int 0, .int 0, .ref q26, .ref q27, .ref q28, .ref q29, .ref q30, .ref q31, .ref q32, .int 0, .ref q33, .ref q34, .ref q35, .ref q36, .ref q37, .null, .int 0, .int 0, .int 0, .null, .null, .null, .null, .int 0, .null, .null, .null, .null])) :: R37) H := hP
  replace hD : va_D A ((m0, .inr (12, [.int 0, .ref q1, .int 0, .ref q2, .ref q3, .int 0, .ref q4, .ref q5, .int 0, .ref q6, .ref q7, .ref q8, .ref q9, .ref q10, .ref q11, .int 0, .int 0, .int 0, .int 0, .int 0, .ref q12, .ref q13, .int 0, .ref q14, .ref q15, .ref q16, .ref q17, .int 0, .ref q18, .ref q19, .ref q20, .ref q21, .ref q22, .int 0, .ref q23, .int 0, .int 0, .long 0, .ref q24, .ref q25, .int 0, .int 0, .int 0, .ref q26, .ref q27, .ref q28, .ref q29, .ref q30, .ref q31, .ref q32, .int 0, .ref q33, .ref q34, .ref q35, .ref q36, .ref q37, .null, .int 0, .int 0, .int 0, .null, .null, .null, .null, .int 0, .null, .null, .null, .null])) :: R37) := hD
  refine lv_aload_n hx hb dX12_init_317 rfl (lv_at hl 0 rfl) ?_
  refine lv_sipush (v := 900) hx hb dX12_init_318 (by decide +kernel) ?_
  refine va_newa (atype := .int) (ty := .int) (a0 := (900, .inl (fun _ => 0))) hx hb (hts (.arrayClass .int) (List.mem_cons_of_mem _ (List.mem_append_left _ (List.mem_append_left _ (List.mem_of_getElem? (i := 3) rfl))))) rfl hK hP hD hS hA (fun _ => vp_cell_i _ _ _) (by decide +kernel) (N' := 900) (by decide +kernel) (show 900 * 4 ≤ 536870912 by omega) (Nat.le_of_ble_eq_true rfl) (Nat.le_of_ble_eq_true rfl) dX12_init_321 ?_
  clear hK hP hD hS
  intro q38 cA38 H hK hP hD hS
  refine W.widen (k := 38) (n := 43475) (Nat.le_of_ble_eq_true rfl) (Nat.le_of_ble_eq_true rfl) ?_
  replace hP := rotP hP
  replace hD := rotD hD
  replace hK := rotK hK
  obtain ⟨R38, hR38⟩ : ∃ z : va_W, z = (q38, .inl (cA38, 900, .inl (fun _ => 0))) :: R37 := ⟨_, rfl⟩
  obtain ⟨T38, hT38⟩ : ∃ z : List (ClassId × FieldType), z = (cA38, .int) :: T37 := ⟨_, rfl⟩
  rw [← hR38] at hP hD
  rw [← hT38] at hK
  refine va_putF (D := D) (ci := 12) (v := .ref q38) (ty := .array .int) (C := RX12) (T := TX12) (N := 69) hx hb hts (fun _ h => List.mem_cons_of_mem _ (List.mem_append_right _ h)) tyX12 tyX12_ok nmX12 hown hK hP hD hS 0 rfl rfl 56 (by decide +kernel) (hts (.fieldLink RX12 123 "TalePlayModel" "soughtRow" "[I") (List.mem_cons_of_mem _ (List.mem_append_left _ (List.mem_append_right _ (List.mem_append_right _ (List.mem_append_left _ (List.mem_of_getElem? (i := 11) rfl))))))) (fun _ h9 => h9) rfl hin rfl (by decide +kernel) rfl rfl (Nat.le_of_ble_eq_true rfl) dX12_init_323 ?_
  clear hP hD hS
  intro H locs hP hD hS
  replace hP : va_P D vwCl ((m0, .inr (12, [.int 0, .ref q1, .int 0, .ref q2, .ref q3, .int 0, .ref q4, .ref q5, .int 0, .ref q6, .ref q7, .ref q8, .ref q9, .ref q10, .ref q11, .int 0, .int 0, .int 0, .int 0, .int 0, .ref q12, .ref q13, .int 0, .ref q14, .ref q15, .ref q16, .ref q17, .int 0, .ref q18, .ref q19, .ref q20, .ref q21, .ref q22, .int 0, .ref q23, .int 0, .int 0, .long 0, .ref q24, .ref q25, .int 0, .int 0, .int 0, .ref q26, .ref q27, .ref q28, .ref q29, .ref q30, .ref q31, .ref q32, .int 0, .ref q33, .ref q34, .ref q35, .ref q36, .ref q37, .ref q38, .int 0, .int 0, .int 0, .null, .null, .null, .null, .int 0, .null, .null, .null, .null])) :: R38) H := hP
  replace hD : va_D A ((m0, .inr (12, [.int 0, .ref q1, .int 0, .ref q2, .ref q3, .int 0, .ref q4, .ref q5, .int 0, .ref q6, .ref q7, .ref q8, .ref q9, .ref q10, .ref q11, .int 0, .int 0, .int 0, .int 0, .int 0, .ref q12, .ref q13, .int 0, .ref q14, .ref q15, .ref q16, .ref q17, .int 0, .ref q18, .ref q19, .ref q20, .ref q21, .ref q22, .int 0, .ref q23, .int 0, .int 0, .long 0, .ref q24, .ref q25, .int 0, .int 0, .int 0, .ref q26, .ref q27, .ref q28, .ref q29, .ref q30, .ref q31, .ref q32, .int 0, .ref q33, .ref q34, .ref q35, .ref q36, .ref q37, .ref q38, .int 0, .int 0, .int 0, .null, .null, .null, .null, .int 0, .null, .null, .null, .null])) :: R38) := hD
  refine lv_aload_n hx hb dX12_init_326 rfl (lv_at hl 0 rfl) ?_
  refine lv_bipush (v := 30) hx hb dX12_init_327 (by decide +kernel) ?_
  refine va_newa (atype := .int) (ty := .int) (a0 := (30, .inl (fun _ => 0))) hx hb (hts (.arrayClass .int) (List.mem_cons_of_mem _ (List.mem_append_left _ (List.mem_append_left _ (List.mem_of_getElem? (i := 3) rfl))))) rfl hK hP hD hS hA (fun _ => vp_cell_i _ _ _) (by decide +kernel) (N' := 30) (by decide +kernel) (show 30 * 4 ≤ 536870912 by omega) (Nat.le_of_ble_eq_true rfl) (Nat.le_of_ble_eq_true rfl) dX12_init_329 ?_
  clear hK hP hD hS
  intro q39 cA39 H hK hP hD hS
  refine W.widen (k := 39) (n := 43505) (Nat.le_of_ble_eq_true rfl) (Nat.le_of_ble_eq_true rfl) ?_
  replace hP := rotP hP
  replace hD := rotD hD
  replace hK := rotK hK
  obtain ⟨R39, hR39⟩ : ∃ z : va_W, z = (q39, .inl (cA39, 30, .inl (fun _ => 0))) :: R38 := ⟨_, rfl⟩
  obtain ⟨T39, hT39⟩ : ∃ z : List (ClassId × FieldType), z = (cA39, .int) :: T38 := ⟨_, rfl⟩
  rw [← hR39] at hP hD
  rw [← hT39] at hK
  refine va_putF (D := D) (ci := 12) (v := .ref q39) (ty := .array .int) (C := RX12) (T := TX12) (N := 69) hx hb hts (fun _ h => List.mem_cons_of_mem _ (List.mem_append_right _ h)) tyX12 tyX12_ok nmX12 hown hK hP hD hS 0 rfl rfl 60 (by decide +kernel) (hts (.fieldLink RX12 126 "TalePlayModel" "lineSort" "[I") (List.mem_cons_of_mem _ (List.mem_append_left _ (List.mem_append_right _ (List.mem_append_right _ (List.mem_append_left _ (List.mem_of_getElem? (i := 12) rfl))))))) (fun _ h9 => h9) rfl hin rfl (by decide +kernel) rfl rfl (Nat.le_of_ble_eq_true rfl) dX12_init_331 ?_
  clear hP hD hS
  intro H locs hP hD hS
  replace hP : va_P D vwCl ((m0, .inr (12, [.int 0, .ref q1, .int 0, .ref q2, .ref q3, .int 0, .ref q4, .ref q5, .int 0, .ref q6, .ref q7, .ref q8, .ref q9, .ref q10, .ref q11, .int 0, .int 0, .int 0, .int 0, .int 0, .ref q12, .ref q13, .int 0, .ref q14, .ref q15, .ref q16, .ref q17, .int 0, .ref q18, .ref q19, .ref q20, .ref q21, .ref q22, .int 0, .ref q23, .int 0, .int 0, .long 0, .ref q24, .ref q25, .int 0, .int 0, .int 0, .ref q26, .ref q27, .ref q28, .ref q29, .ref q30, .ref q31, .ref q32, .int 0, .ref q33, .ref q34, .ref q35, .ref q36, .ref q37, .ref q38, .int 0, .int 0, .int 0, .ref q39, .null, .null, .null, .int 0, .null, .null, .null, .null])) :: R39) H := hP
  replace hD : va_D A ((m0, .inr (12, [.int 0, .ref q1, .int 0, .ref q2, .ref q3, .int 0, .ref q4, .ref q5, .int 0, .ref q6, .ref q7, .ref q8, .ref q9, .ref q10, .ref q11, .int 0, .int 0, .int 0, .int 0, .int 0, .ref q12, .ref q13, .int 0, .ref q14, .ref q15, .ref q16, .ref q17, .int 0, .ref q18, .ref q19, .ref q20, .ref q21, .ref q22, .int 0, .ref q23, .int 0, .int 0, .long 0, .ref q24, .ref q25, .int 0, .int 0, .int 0, .ref q26, .ref q27, .ref q28, .ref q29, .ref q30, .ref q31, .ref q32, .int 0, .ref q33, .ref q34, .ref q35, .ref q36, .ref q37, .ref q38, .int 0, .int 0, .int 0, .ref q39, .null, .null, .null, .int 0, .null, .null, .null, .null])) :: R39) := hD
  refine lv_aload_n hx hb dX12_init_334 rfl (lv_at hl 0 rfl) ?_
  refine lv_bipush (v := 30) hx hb dX12_init_335 (by decide +kernel) ?_
  refine va_newa (atype := .int) (ty := .int) (a0 := (30, .inl (fun _ => 0))) hx hb (hts (.arrayClass .int) (List.mem_cons_of_mem _ (List.mem_append_left _ (List.mem_append_left _ (List.mem_of_getElem? (i := 3) rfl))))) rfl hK hP hD hS hA (fun _ => vp_cell_i _ _ _) (by decide +kernel) (N' := 30) (by decide +kernel) (show 30 * 4 ≤ 536870912 by omega) (Nat.le_of_ble_eq_true rfl) (Nat.le_of_ble_eq_true rfl) dX12_init_337 ?_
  clear hK hP hD hS
  intro q40 cA40 H hK hP hD hS
  refine W.widen (k := 40) (n := 43535) (Nat.le_of_ble_eq_true rfl) (Nat.le_of_ble_eq_true rfl) ?_
  replace hP := rotP hP
  replace hD := rotD hD
  replace hK := rotK hK
  obtain ⟨R40, hR40⟩ : ∃ z : va_W, z = (q40, .inl (cA40, 30, .inl (fun _ => 0))) :: R39 := ⟨_, rfl⟩
  obtain ⟨T40, hT40⟩ : ∃ z : List (ClassId × FieldType), z = (cA40, .int) :: T39 := ⟨_, rfl⟩
  rw [← hR40] at hP hD
  rw [← hT40] at hK
  refine va_putF (D := D) (ci := 12) (v := .ref q40) (ty := .array .int) (C := RX12) (T := TX12) (N := 69) hx hb hts (fun _ h => List.mem_cons_of_mem _ (List.mem_append_right _ h)) tyX12 tyX12_ok nmX12 hown hK hP hD hS 0 rfl rfl 61 (by decide +kernel) (hts (.fieldLink RX12 129 "TalePlayModel" "lineMany" "[I") (List.mem_cons_of_mem _ (List.mem_append_left _ (List.mem_append_right _ (List.mem_append_right _ (List.mem_append_left _ (List.mem_of_getElem? (i := 13) rfl))))))) (fun _ h9 => h9) rfl hin rfl (by decide +kernel) rfl rfl (Nat.le_of_ble_eq_true rfl) dX12_init_339 ?_
  clear hP hD hS
  intro H locs hP hD hS
  replace hP : va_P D vwCl ((m0, .inr (12, [.int 0, .ref q1, .int 0, .ref q2, .ref q3, .int 0, .ref q4, .ref q5, .int 0, .ref q6, .ref q7, .ref q8, .ref q9, .ref q10, .ref q11, .int 0, .int 0, .int 0, .int 0, .int 0, .ref q12, .ref q13, .int 0, .ref q14, .ref q15, .ref q16, .ref q17, .int 0, .ref q18, .ref q19, .ref q20, .ref q21, .ref q22, .int 0, .ref q23, .int 0, .int 0, .long 0, .ref q24, .ref q25, .int 0, .int 0, .int 0, .ref q26, .ref q27, .ref q28, .ref q29, .ref q30, .ref q31, .ref q32, .int 0, .ref q33, .ref q34, .ref q35, .ref q36, .ref q37, .ref q38, .int 0, .int 0, .int 0, .ref q39, .ref q40, .null, .null, .int 0, .null, .null, .null, .null])) :: R40) H := hP
  replace hD : va_D A ((m0, .inr (12, [.int 0, .ref q1, .int 0, .ref q2, .ref q3, .int 0, .ref q4, .ref q5, .int 0, .ref q6, .ref q7, .ref q8, .ref q9, .ref q10, .ref q11, .int 0, .int 0, .int 0, .int 0, .int 0, .ref q12, .ref q13, .int 0, .ref q14, .ref q15, .ref q16, .ref q17, .int 0, .ref q18, .ref q19, .ref q20, .ref q21, .ref q22, .int 0, .ref q23, .int 0, .int 0, .long 0, .ref q24, .ref q25, .int 0, .int 0, .int 0, .ref q26, .ref q27, .ref q28, .ref q29, .ref q30, .ref q31, .ref q32, .int 0, .ref q33, .ref q34, .ref q35, .ref q36, .ref q37, .ref q38, .int 0, .int 0, .int 0, .ref q39, .ref q40, .null, .null, .int 0, .null, .null, .null, .null])) :: R40) := hD
  refine lv_aload_n hx hb dX12_init_342 rfl (lv_at hl 0 rfl) ?_
  refine lv_sipush (v := 360) hx hb dX12_init_343 (by decide +kernel) ?_
  refine va_newa (atype := .long) (ty := .long) (a0 := (360, .inr (.inl (fun _ => 0)))) hx hb (hts (.arrayClass .long) (List.mem_cons_of_mem _ (List.mem_append_left _ (List.mem_append_right _ (List.mem_append_right _ (List.mem_append_left _ (List.mem_of_getElem? (i := 14) rfl))))))) rfl hK hP hD hS hA (fun _ => vp_cell_l _ _ _) (by decide +kernel) (N' := 360) (by decide +kernel) (show 360 * 8 ≤ 536870912 by omega) (Nat.le_of_ble_eq_true rfl) (Nat.le_of_ble_eq_true rfl) dX12_init_346 ?_
  clear hK hP hD hS
  intro q41 cA41 H hK hP hD hS
  refine W.widen (k := 41) (n := 43895) (Nat.le_of_ble_eq_true rfl) (Nat.le_of_ble_eq_true rfl) ?_
  replace hP := rotP hP
  replace hD := rotD hD
  replace hK := rotK hK
  obtain ⟨R41, hR41⟩ : ∃ z : va_W, z = (q41, .inl (cA41, 360, .inr (.inl (fun _ => 0)))) :: R40 := ⟨_, rfl⟩
  obtain ⟨T41, hT41⟩ : ∃ z : List (ClassId × FieldType), z = (cA41, .long) :: T40 := ⟨_, rfl⟩
  rw [← hR41] at hP hD
  rw [← hT41] at hK
  refine va_putF (D := D) (ci := 12) (v := .ref q41) (ty := .array .long) (C := RX12) (T := TX12) (N := 69) hx hb hts (fun _ h => List.mem_cons_of_mem _ (List.mem_append_right _ h)) tyX12 tyX12_ok nmX12 hown hK hP hD hS 0 rfl rfl 62 (by decide +kernel) (hts (.fieldLink RX12 132 "TalePlayModel" "items" "[J") (List.mem_cons_of_mem _ (List.mem_append_left _ (List.mem_append_right _ (List.mem_append_right _ (List.mem_append_left _ (List.mem_of_getElem? (i := 15) rfl))))))) (fun _ h9 => h9) rfl hin rfl (by decide +kernel) rfl rfl (Nat.le_of_ble_eq_true rfl) dX12_init_348 ?_
  clear hP hD hS
  intro H locs hP hD hS
  replace hP : va_P D vwCl ((m0, .inr (12, [.int 0, .ref q1, .int 0, .ref q2, .ref q3, .int 0, .ref q4, .ref q5, .int 0, .ref q6, .ref q7, .ref q8, .ref q9, .ref q10, .ref q11, .int 0, .int 0, .int 0, .int 0, .int 0, .ref q12, .ref q13, .int 0, .ref q14, .ref q15, .ref q16, .ref q17, .int 0, .ref q18, .ref q19, .ref q20, .ref q21, .ref q22, .int 0, .ref q23, .int 0, .int 0, .long 0, .ref q24, .ref q25, .int 0, .int 0, .int 0, .ref q26, .ref q27, .ref q28, .ref q29, .ref q30, .ref q31, .ref q32, .int 0, .ref q33, .ref q34, .ref q35, .ref q36, .ref q37, .ref q38, .int 0, .int 0, .int 0, .ref q39, .ref q40, .ref q41, .null, .int 0, .null, .null, .null, .null])) :: R41) H := hP
  replace hD : va_D A ((m0, .inr (12, [.int 0, .ref q1, .int 0, .ref q2, .ref q3, .int 0, .ref q4, .ref q5, .int 0, .ref q6, .ref q7, .ref q8, .ref q9, .ref q10, .ref q11, .int 0, .int 0, .int 0, .int 0, .int 0, .ref q12, .ref q13, .int 0, .ref q14, .ref q15, .ref q16, .ref q17, .int 0, .ref q18, .ref q19, .ref q20, .ref q21, .ref q22, .int 0, .ref q23, .int 0, .int 0, .long 0, .ref q24, .ref q25, .int 0, .int 0, .int 0, .ref q26, .ref q27, .ref q28, .ref q29, .ref q30, .ref q31, .ref q32, .int 0, .ref q33, .ref q34, .ref q35, .ref q36, .ref q37, .ref q38, .int 0, .int 0, .int 0, .ref q39, .ref q40, .ref q41, .null, .int 0, .null, .null, .null, .null])) :: R41) := hD
  refine lv_aload_n hx hb dX12_init_351 rfl (lv_at hl 0 rfl) ?_
  refine lv_bipush (v := 30) hx hb dX12_init_352 (by decide +kernel) ?_
  refine va_newa (atype := .boolean) (ty := .boolean) (a0 := (30, .inl (fun _ => 0))) hx hb (hts (.arrayClass .boolean) (List.mem_cons_of_mem _ (List.mem_append_left _ (List.mem_append_left _ (List.mem_of_getElem? (i := 13) rfl))))) rfl hK hP hD hS hA (fun _ => vp_cell_i _ _ _) (by decide +kernel) (N' := 30) (by decide +kernel) (show 30 * 1 ≤ 536870912 by omega) (Nat.le_of_ble_eq_true rfl) (Nat.le_of_ble_eq_true rfl) dX12_init_354 ?_
  clear hK hP hD hS
  intro q42 cA42 H hK hP hD hS
  refine W.widen (k := 42) (n := 43925) (Nat.le_of_ble_eq_true rfl) (Nat.le_of_ble_eq_true rfl) ?_
  replace hP := rotP hP
  replace hD := rotD hD
  replace hK := rotK hK
  obtain ⟨R42, hR42⟩ : ∃ z : va_W, z = (q42, .inl (cA42, 30, .inl (fun _ => 0))) :: R41 := ⟨_, rfl⟩
  obtain ⟨T42, hT42⟩ : ∃ z : List (ClassId × FieldType), z = (cA42, .boolean) :: T41 := ⟨_, rfl⟩
  rw [← hR42] at hP hD
  rw [← hT42] at hK
  refine va_putF (D := D) (ci := 12) (v := .ref q42) (ty := .array .boolean) (C := RX12) (T := TX12) (N := 69) hx hb hts (fun _ h => List.mem_cons_of_mem _ (List.mem_append_right _ h)) tyX12 tyX12_ok nmX12 hown hK hP hD hS 0 rfl rfl 63 (by decide +kernel) (hts (.fieldLink RX12 136 "TalePlayModel" "hasLine" "[Z") (List.mem_cons_of_mem _ (List.mem_append_left _ (List.mem_append_right _ (List.mem_append_right _ (List.mem_append_right _ (List.mem_of_getElem? (i := 0) rfl))))))) (fun _ h9 => h9) rfl hin rfl (by decide +kernel) rfl rfl (Nat.le_of_ble_eq_true rfl) dX12_init_356 ?_
  clear hP hD hS
  intro H locs hP hD hS
  replace hP : va_P D vwCl ((m0, .inr (12, [.int 0, .ref q1, .int 0, .ref q2, .ref q3, .int 0, .ref q4, .ref q5, .int 0, .ref q6, .ref q7, .ref q8, .ref q9, .ref q10, .ref q11, .int 0, .int 0, .int 0, .int 0, .int 0, .ref q12, .ref q13, .int 0, .ref q14, .ref q15, .ref q16, .ref q17, .int 0, .ref q18, .ref q19, .ref q20, .ref q21, .ref q22, .int 0, .ref q23, .int 0, .int 0, .long 0, .ref q24, .ref q25, .int 0, .int 0, .int 0, .ref q26, .ref q27, .ref q28, .ref q29, .ref q30, .ref q31, .ref q32, .int 0, .ref q33, .ref q34, .ref q35, .ref q36, .ref q37, .ref q38, .int 0, .int 0, .int 0, .ref q39, .ref q40, .ref q41, .ref q42, .int 0, .null, .null, .null, .null])) :: R42) H := hP
  replace hD : va_D A ((m0, .inr (12, [.int 0, .ref q1, .int 0, .ref q2, .ref q3, .int 0, .ref q4, .ref q5, .int 0, .ref q6, .ref q7, .ref q8, .ref q9, .ref q10, .ref q11, .int 0, .int 0, .int 0, .int 0, .int 0, .ref q12, .ref q13, .int 0, .ref q14, .ref q15, .ref q16, .ref q17, .int 0, .ref q18, .ref q19, .ref q20, .ref q21, .ref q22, .int 0, .ref q23, .int 0, .int 0, .long 0, .ref q24, .ref q25, .int 0, .int 0, .int 0, .ref q26, .ref q27, .ref q28, .ref q29, .ref q30, .ref q31, .ref q32, .int 0, .ref q33, .ref q34, .ref q35, .ref q36, .ref q37, .ref q38, .int 0, .int 0, .int 0, .ref q39, .ref q40, .ref q41, .ref q42, .int 0, .null, .null, .null, .null])) :: R42) := hD
  refine lv_aload_n hx hb dX12_init_359 rfl (lv_at hl 0 rfl) ?_
  refine lv_bipush (v := 10) hx hb dX12_init_360 (by decide +kernel) ?_
  refine va_newa (atype := .int) (ty := .int) (a0 := (10, .inl (fun _ => 0))) hx hb (hts (.arrayClass .int) (List.mem_cons_of_mem _ (List.mem_append_left _ (List.mem_append_left _ (List.mem_of_getElem? (i := 3) rfl))))) rfl hK hP hD hS hA (fun _ => vp_cell_i _ _ _) (by decide +kernel) (N' := 10) (by decide +kernel) (show 10 * 4 ≤ 536870912 by omega) (Nat.le_of_ble_eq_true rfl) (Nat.le_of_ble_eq_true rfl) dX12_init_362 ?_
  clear hK hP hD hS
  intro q43 cA43 H hK hP hD hS
  refine W.widen (k := 43) (n := 43935) (Nat.le_of_ble_eq_true rfl) (Nat.le_of_ble_eq_true rfl) ?_
  replace hP := rotP hP
  replace hD := rotD hD
  replace hK := rotK hK
  obtain ⟨R43, hR43⟩ : ∃ z : va_W, z = (q43, .inl (cA43, 10, .inl (fun _ => 0))) :: R42 := ⟨_, rfl⟩
  obtain ⟨T43, hT43⟩ : ∃ z : List (ClassId × FieldType), z = (cA43, .int) :: T42 := ⟨_, rfl⟩
  rw [← hR43] at hP hD
  rw [← hT43] at hK
  refine va_putF (D := D) (ci := 12) (v := .ref q43) (ty := .array .int) (C := RX12) (T := TX12) (N := 69) hx hb hts (fun _ h => List.mem_cons_of_mem _ (List.mem_append_right _ h)) tyX12 tyX12_ok nmX12 hown hK hP hD hS 0 rfl rfl 65 (by decide +kernel) (hts (.fieldLink RX12 139 "TalePlayModel" "castSort" "[I") (List.mem_cons_of_mem _ (List.mem_append_left _ (List.mem_append_right _ (List.mem_append_right _ (List.mem_append_right _ (List.mem_of_getElem? (i := 1) rfl))))))) (fun _ h9 => h9) rfl hin rfl (by decide +kernel) rfl rfl (Nat.le_of_ble_eq_true rfl) dX12_init_364 ?_
  clear hP hD hS
  intro H locs hP hD hS
  replace hP : va_P D vwCl ((m0, .inr (12, [.int 0, .ref q1, .int 0, .ref q2, .ref q3, .int 0, .ref q4, .ref q5, .int 0, .ref q6, .ref q7, .ref q8, .ref q9, .ref q10, .ref q11, .int 0, .int 0, .int 0, .int 0, .int 0, .ref q12, .ref q13, .int 0, .ref q14, .ref q15, .ref q16, .ref q17, .int 0, .ref q18, .ref q19, .ref q20, .ref q21, .ref q22, .int 0, .ref q23, .int 0, .int 0, .long 0, .ref q24, .ref q25, .int 0, .int 0, .int 0, .ref q26, .ref q27, .ref q28, .ref q29, .ref q30, .ref q31, .ref q32, .int 0, .ref q33, .ref q34, .ref q35, .ref q36, .ref q37, .ref q38, .int 0, .int 0, .int 0, .ref q39, .ref q40, .ref q41, .ref q42, .int 0, .ref q43, .null, .null, .null])) :: R43) H := hP
  replace hD : va_D A ((m0, .inr (12, [.int 0, .ref q1, .int 0, .ref q2, .ref q3, .int 0, .ref q4, .ref q5, .int 0, .ref q6, .ref q7, .ref q8, .ref q9, .ref q10, .ref q11, .int 0, .int 0, .int 0, .int 0, .int 0, .ref q12, .ref q13, .int 0, .ref q14, .ref q15, .ref q16, .ref q17, .int 0, .ref q18, .ref q19, .ref q20, .ref q21, .ref q22, .int 0, .ref q23, .int 0, .int 0, .long 0, .ref q24, .ref q25, .int 0, .int 0, .int 0, .ref q26, .ref q27, .ref q28, .ref q29, .ref q30, .ref q31, .ref q32, .int 0, .ref q33, .ref q34, .ref q35, .ref q36, .ref q37, .ref q38, .int 0, .int 0, .int 0, .ref q39, .ref q40, .ref q41, .ref q42, .int 0, .ref q43, .null, .null, .null])) :: R43) := hD
  refine lv_aload_n hx hb dX12_init_367 rfl (lv_at hl 0 rfl) ?_
  refine lv_bipush (v := 10) hx hb dX12_init_368 (by decide +kernel) ?_
  refine va_newa (atype := .int) (ty := .int) (a0 := (10, .inl (fun _ => 0))) hx hb (hts (.arrayClass .int) (List.mem_cons_of_mem _ (List.mem_append_left _ (List.mem_append_left _ (List.mem_of_getElem? (i := 3) rfl))))) rfl hK hP hD hS hA (fun _ => vp_cell_i _ _ _) (by decide +kernel) (N' := 10) (by decide +kernel) (show 10 * 4 ≤ 536870912 by omega) (Nat.le_of_ble_eq_true rfl) (Nat.le_of_ble_eq_true rfl) dX12_init_370 ?_
  clear hK hP hD hS
  intro q44 cA44 H hK hP hD hS
  refine W.widen (k := 44) (n := 43945) (Nat.le_of_ble_eq_true rfl) (Nat.le_of_ble_eq_true rfl) ?_
  replace hP := rotP hP
  replace hD := rotD hD
  replace hK := rotK hK
  obtain ⟨R44, hR44⟩ : ∃ z : va_W, z = (q44, .inl (cA44, 10, .inl (fun _ => 0))) :: R43 := ⟨_, rfl⟩
  obtain ⟨T44, hT44⟩ : ∃ z : List (ClassId × FieldType), z = (cA44, .int) :: T43 := ⟨_, rfl⟩
  rw [← hR44] at hP hD
  rw [← hT44] at hK
  refine va_putF (D := D) (ci := 12) (v := .ref q44) (ty := .array .int) (C := RX12) (T := TX12) (N := 69) hx hb hts (fun _ h => List.mem_cons_of_mem _ (List.mem_append_right _ h)) tyX12 tyX12_ok nmX12 hown hK hP hD hS 0 rfl rfl 66 (by decide +kernel) (hts (.fieldLink RX12 142 "TalePlayModel" "castMany" "[I") (List.mem_cons_of_mem _ (List.mem_append_left _ (List.mem_append_right _ (List.mem_append_right _ (List.mem_append_right _ (List.mem_of_getElem? (i := 2) rfl))))))) (fun _ h9 => h9) rfl hin rfl (by decide +kernel) rfl rfl (Nat.le_of_ble_eq_true rfl) dX12_init_372 ?_
  clear hP hD hS
  intro H locs hP hD hS
  replace hP : va_P D vwCl ((m0, .inr (12, [.int 0, .ref q1, .int 0, .ref q2, .ref q3, .int 0, .ref q4, .ref q5, .int 0, .ref q6, .ref q7, .ref q8, .ref q9, .ref q10, .ref q11, .int 0, .int 0, .int 0, .int 0, .int 0, .ref q12, .ref q13, .int 0, .ref q14, .ref q15, .ref q16, .ref q17, .int 0, .ref q18, .ref q19, .ref q20, .ref q21, .ref q22, .int 0, .ref q23, .int 0, .int 0, .long 0, .ref q24, .ref q25, .int 0, .int 0, .int 0, .ref q26, .ref q27, .ref q28, .ref q29, .ref q30, .ref q31, .ref q32, .int 0, .ref q33, .ref q34, .ref q35, .ref q36, .ref q37, .ref q38, .int 0, .int 0, .int 0, .ref q39, .ref q40, .ref q41, .ref q42, .int 0, .ref q43, .ref q44, .null, .null])) :: R44) H := hP
  replace hD : va_D A ((m0, .inr (12, [.int 0, .ref q1, .int 0, .ref q2, .ref q3, .int 0, .ref q4, .ref q5, .int 0, .ref q6, .ref q7, .ref q8, .ref q9, .ref q10, .ref q11, .int 0, .int 0, .int 0, .int 0, .int 0, .ref q12, .ref q13, .int 0, .ref q14, .ref q15, .ref q16, .ref q17, .int 0, .ref q18, .ref q19, .ref q20, .ref q21, .ref q22, .int 0, .ref q23, .int 0, .int 0, .long 0, .ref q24, .ref q25, .int 0, .int 0, .int 0, .ref q26, .ref q27, .ref q28, .ref q29, .ref q30, .ref q31, .ref q32, .int 0, .ref q33, .ref q34, .ref q35, .ref q36, .ref q37, .ref q38, .int 0, .int 0, .int 0, .ref q39, .ref q40, .ref q41, .ref q42, .int 0, .ref q43, .ref q44, .null, .null])) :: R44) := hD
  refine lv_aload_n hx hb dX12_init_375 rfl (lv_at hl 0 rfl) ?_
  refine lv_bipush (v := 120) hx hb dX12_init_376 (by decide +kernel) ?_
  refine va_newa (atype := .int) (ty := .int) (a0 := (120, .inl (fun _ => 0))) hx hb (hts (.arrayClass .int) (List.mem_cons_of_mem _ (List.mem_append_left _ (List.mem_append_left _ (List.mem_of_getElem? (i := 3) rfl))))) rfl hK hP hD hS hA (fun _ => vp_cell_i _ _ _) (by decide +kernel) (N' := 120) (by decide +kernel) (show 120 * 4 ≤ 536870912 by omega) (Nat.le_of_ble_eq_true rfl) (Nat.le_of_ble_eq_true rfl) dX12_init_378 ?_
  clear hK hP hD hS
  intro q45 cA45 H hK hP hD hS
  refine W.widen (k := 45) (n := 44065) (Nat.le_of_ble_eq_true rfl) (Nat.le_of_ble_eq_true rfl) ?_
  replace hP := rotP hP
  replace hD := rotD hD
  replace hK := rotK hK
  obtain ⟨R45, hR45⟩ : ∃ z : va_W, z = (q45, .inl (cA45, 120, .inl (fun _ => 0))) :: R44 := ⟨_, rfl⟩
  obtain ⟨T45, hT45⟩ : ∃ z : List (ClassId × FieldType), z = (cA45, .int) :: T44 := ⟨_, rfl⟩
  rw [← hR45] at hP hD
  rw [← hT45] at hK
  refine va_putF (D := D) (ci := 12) (v := .ref q45) (ty := .array .int) (C := RX12) (T := TX12) (N := 69) hx hb hts (fun _ h => List.mem_cons_of_mem _ (List.mem_append_right _ h)) tyX12 tyX12_ok nmX12 hown hK hP hD hS 0 rfl rfl 67 (by decide +kernel) (hts (.fieldLink RX12 145 "TalePlayModel" "roles" "[I") (List.mem_cons_of_mem _ (List.mem_append_left _ (List.mem_append_right _ (List.mem_append_right _ (List.mem_append_right _ (List.mem_of_getElem? (i := 3) rfl))))))) (fun _ h9 => h9) rfl hin rfl (by decide +kernel) rfl rfl (Nat.le_of_ble_eq_true rfl) dX12_init_380 ?_
  clear hP hD hS
  intro H locs hP hD hS
  replace hP : va_P D vwCl ((m0, .inr (12, [.int 0, .ref q1, .int 0, .ref q2, .ref q3, .int 0, .ref q4, .ref q5, .int 0, .ref q6, .ref q7, .ref q8, .ref q9, .ref q10, .ref q11, .int 0, .int 0, .int 0, .int 0, .int 0, .ref q12, .ref q13, .int 0, .ref q14, .ref q15, .ref q16, .ref q17, .int 0, .ref q18, .ref q19, .ref q20, .ref q21, .ref q22, .int 0, .ref q23, .int 0, .int 0, .long 0, .ref q24, .ref q25, .int 0, .int 0, .int 0, .ref q26, .ref q27, .ref q28, .ref q29, .ref q30, .ref q31, .ref q32, .int 0, .ref q33, .ref q34, .ref q35, .ref q36, .ref q37, .ref q38, .int 0, .int 0, .int 0, .ref q39, .ref q40, .ref q41, .ref q42, .int 0, .ref q43, .ref q44, .ref q45, .null])) :: R45) H := hP
  replace hD : va_D A ((m0, .inr (12, [.int 0, .ref q1, .int 0, .ref q2, .ref q3, .int 0, .ref q4, .ref q5, .int 0, .ref q6, .ref q7, .ref q8, .ref q9, .ref q10, .ref q11, .int 0, .int 0, .int 0, .int 0, .int 0, .ref q12, .ref q13, .int 0, .ref q14, .ref q15, .ref q16, .ref q17, .int 0, .ref q18, .ref q19, .ref q20, .ref q21, .ref q22, .int 0, .ref q23, .int 0, .int 0, .long 0, .ref q24, .ref q25, .int 0, .int 0, .int 0, .ref q26, .ref q27, .ref q28, .ref q29, .ref q30, .ref q31, .ref q32, .int 0, .ref q33, .ref q34, .ref q35, .ref q36, .ref q37, .ref q38, .int 0, .int 0, .int 0, .ref q39, .ref q40, .ref q41, .ref q42, .int 0, .ref q43, .ref q44, .ref q45, .null])) :: R45) := hD
  refine lv_aload_n hx hb dX12_init_383 rfl (lv_at hl 0 rfl) ?_
  refine lv_bipush (v := 12) hx hb dX12_init_384 (by decide +kernel) ?_
  refine va_newa (atype := .long) (ty := .long) (a0 := (12, .inr (.inl (fun _ => 0)))) hx hb (hts (.arrayClass .long) (List.mem_cons_of_mem _ (List.mem_append_left _ (List.mem_append_right _ (List.mem_append_right _ (List.mem_append_left _ (List.mem_of_getElem? (i := 14) rfl))))))) rfl hK hP hD hS hA (fun _ => vp_cell_l _ _ _) (by decide +kernel) (N' := 12) (by decide +kernel) (show 12 * 8 ≤ 536870912 by omega) (Nat.le_of_ble_eq_true rfl) (Nat.le_of_ble_eq_true rfl) dX12_init_386 ?_
  clear hK hP hD hS
  intro q46 cA46 H hK hP hD hS
  refine W.widen (k := 46) (n := 44077) (Nat.le_of_ble_eq_true rfl) (Nat.le_of_ble_eq_true rfl) ?_
  replace hP := rotP hP
  replace hD := rotD hD
  replace hK := rotK hK
  obtain ⟨R46, hR46⟩ : ∃ z : va_W, z = (q46, .inl (cA46, 12, .inr (.inl (fun _ => 0)))) :: R45 := ⟨_, rfl⟩
  obtain ⟨T46, hT46⟩ : ∃ z : List (ClassId × FieldType), z = (cA46, .long) :: T45 := ⟨_, rfl⟩
  rw [← hR46] at hP hD
  rw [← hT46] at hK
  refine va_putF (D := D) (ci := 12) (v := .ref q46) (ty := .array .long) (C := RX12) (T := TX12) (N := 69) hx hb hts (fun _ h => List.mem_cons_of_mem _ (List.mem_append_right _ h)) tyX12 tyX12_ok nmX12 hown hK hP hD hS 0 rfl rfl 68 (by decide +kernel) (hts (.fieldLink RX12 148 "TalePlayModel" "held" "[J") (List.mem_cons_of_mem _ (List.mem_append_left _ (List.mem_append_right _ (List.mem_append_right _ (List.mem_append_right _ (List.mem_of_getElem? (i := 4) rfl))))))) (fun _ h9 => h9) rfl hin rfl (by decide +kernel) rfl rfl (Nat.le_of_ble_eq_true rfl) dX12_init_388 ?_
  clear hP hD hS
  intro H locs hP hD hS
  replace hP : va_P D vwCl ((m0, .inr (12, [.int 0, .ref q1, .int 0, .ref q2, .ref q3, .int 0, .ref q4, .ref q5, .int 0, .ref q6, .ref q7, .ref q8, .ref q9, .ref q10, .ref q11, .int 0, .int 0, .int 0, .int 0, .int 0, .ref q12, .ref q13, .int 0, .ref q14, .ref q15, .ref q16, .ref q17, .int 0, .ref q18, .ref q19, .ref q20, .ref q21, .ref q22, .int 0, .ref q23, .int 0, .int 0, .long 0, .ref q24, .ref q25, .int 0, .int 0, .int 0, .ref q26, .ref q27, .ref q28, .ref q29, .ref q30, .ref q31, .ref q32, .int 0, .ref q33, .ref q34, .ref q35, .ref q36, .ref q37, .ref q38, .int 0, .int 0, .int 0, .ref q39, .ref q40, .ref q41, .ref q42, .int 0, .ref q43, .ref q44, .ref q45, .ref q46])) :: R46) H := hP
  replace hD : va_D A ((m0, .inr (12, [.int 0, .ref q1, .int 0, .ref q2, .ref q3, .int 0, .ref q4, .ref q5, .int 0, .ref q6, .ref q7, .ref q8, .ref q9, .ref q10, .ref q11, .int 0, .int 0, .int 0, .int 0, .int 0, .ref q12, .ref q13, .int 0, .ref q14, .ref q15, .ref q16, .ref q17, .int 0, .ref q18, .ref q19, .ref q20, .ref q21, .ref q22, .int 0, .ref q23, .int 0, .int 0, .long 0, .ref q24, .ref q25, .int 0, .int 0, .int 0, .ref q26, .ref q27, .ref q28, .ref q29, .ref q30, .ref q31, .ref q32, .int 0, .ref q33, .ref q34, .ref q35, .ref q36, .ref q37, .ref q38, .int 0, .int 0, .int 0, .ref q39, .ref q40, .ref q41, .ref q42, .int 0, .ref q43, .ref q44, .ref q45, .ref q46])) :: R46) := hD
  rw [hR46, hR45, hR44, hR43, hR42, hR41, hR40, hR39, hR38, hR37, hR36, hR35, hR34, hR33, hR32, hR31, hR30, hR29, hR28, hR27, hR26, hR25, hR24, hR23, hR22, hR21, hR20, hR19, hR18, hR17, hR16, hR15, hR14, hR13, hR12, hR11, hR10, hR9, hR8, hR7, hR6, hR5, hR4, hR3, hR2, hR1, hR0] at hP hD
  rw [hT46, hT45, hT44, hT43, hT42, hT41, hT40, hT39, hT38, hT37, hT36, hT35, hT34, hT33, hT32, hT31, hT30, hT29, hT28, hT27, hT26, hT25, hT24, hT23, hT22, hT21, hT20, hT19, hT18, hT17, hT16, hT15, hT14, hT13, hT12, hT11, hT10, hT9, hT8, hT7, hT6, hT5, hT4, hT3, hT2, hT1, hT0] at hK
  have hP := hP.sub (ws' := mW m0 (fun k => if k < 24 then ([0, q1, 0, q2, q3, 0, q4, q5, 0, q6, q7, q8, q9, q10, q11, 0, 0, 0, 0, 0, q12, q13, 0, q14] : List Nat).getD (k - 0) 0 else if k < 48 then ([q15, q16, q17, 0, q18, q19, q20, q21, q22, 0, q23, 0, 0, 0, q24, q25, 0, 0, 0, q26, q27, q28, q29, q30] : List Nat).getD (k - 24) 0 else ([q31, q32, 0, q33, q34, q35, q36, q37, q38, 0, 0, 0, q39, q40, q41, q42, 0, q43, q44, q45, q46] : List Nat).getD (k - 48) 0) (fun k => if k < 24 then ([cA1, cA1, cA1, cA2, cA3, cA1, cA4, cA5, cA1, cA6, cA7, cA8, cA9, cA10, cA11, cA1, cA1, cA1, cA1, cA1, cA12, cA13, cA1, cA14] : List ClassId).getD (k - 0) cA1 else if k < 48 then ([cA15, cA16, cA17, cA1, cA18, cA19, cA20, cA21, cA22, cA1, cA23, cA1, cA1, cA1, cA24, cA25, cA1, cA1, cA1, cA26, cA27, cA28, cA29, cA30] : List ClassId).getD (k - 24) cA1 else ([cA31, cA32, cA1, cA33, cA34, cA35, cA36, cA37, cA38, cA1, cA1, cA1, cA39, cA40, cA41, cA42, cA1, cA43, cA44, cA45, cA46] : List ClassId).getD (k - 48) cA1) (fun _ => 0) 0 (fun _ _ => 0) (fun _ _ => 0)) [0, 46, 45, 44, 43, 42, 41, 40, 39, 38, 37, 36, 35, 34, 33, 32, 31, 30, 29, 28, 27, 26, 25, 24, 23, 22, 21, 20, 19, 18, 17, 16, 15, 14, 13, 12, 11, 10, 9, 8, 7, 6, 5, 4, 3, 2, 1] rfl
  have hD := hD.sub (ws' := mW m0 (fun k => if k < 24 then ([0, q1, 0, q2, q3, 0, q4, q5, 0, q6, q7, q8, q9, q10, q11, 0, 0, 0, 0, 0, q12, q13, 0, q14] : List Nat).getD (k - 0) 0 else if k < 48 then ([q15, q16, q17, 0, q18, q19, q20, q21, q22, 0, q23, 0, 0, 0, q24, q25, 0, 0, 0, q26, q27, q28, q29, q30] : List Nat).getD (k - 24) 0 else ([q31, q32, 0, q33, q34, q35, q36, q37, q38, 0, 0, 0, q39, q40, q41, q42, 0, q43, q44, q45, q46] : List Nat).getD (k - 48) 0) (fun k => if k < 24 then ([cA1, cA1, cA1, cA2, cA3, cA1, cA4, cA5, cA1, cA6, cA7, cA8, cA9, cA10, cA11, cA1, cA1, cA1, cA1, cA1, cA12, cA13, cA1, cA14] : List ClassId).getD (k - 0) cA1 else if k < 48 then ([cA15, cA16, cA17, cA1, cA18, cA19, cA20, cA21, cA22, cA1, cA23, cA1, cA1, cA1, cA24, cA25, cA1, cA1, cA1, cA26, cA27, cA28, cA29, cA30] : List ClassId).getD (k - 24) cA1 else ([cA31, cA32, cA1, cA33, cA34, cA35, cA36, cA37, cA38, cA1, cA1, cA1, cA39, cA40, cA41, cA42, cA1, cA43, cA44, cA45, cA46] : List ClassId).getD (k - 48) cA1) (fun _ => 0) 0 (fun _ _ => 0) (fun _ _ => 0)) [0, 46, 45, 44, 43, 42, 41, 40, 39, 38, 37, 36, 35, 34, 33, 32, 31, 30, 29, 28, 27, 26, 25, 24, 23, 22, 21, 20, 19, 18, 17, 16, 15, 14, 13, 12, 11, 10, 9, 8, 7, 6, 5, 4, 3, 2, 1] (by decide +kernel) rfl
  have hK := hK.sub (tys' := mT (fun k => if k < 24 then ([cA1, cA1, cA1, cA2, cA3, cA1, cA4, cA5, cA1, cA6, cA7, cA8, cA9, cA10, cA11, cA1, cA1, cA1, cA1, cA1, cA12, cA13, cA1, cA14] : List ClassId).getD (k - 0) cA1 else if k < 48 then ([cA15, cA16, cA17, cA1, cA18, cA19, cA20, cA21, cA22, cA1, cA23, cA1, cA1, cA1, cA24, cA25, cA1, cA1, cA1, cA26, cA27, cA28, cA29, cA30] : List ClassId).getD (k - 24) cA1 else ([cA31, cA32, cA1, cA33, cA34, cA35, cA36, cA37, cA38, cA1, cA1, cA1, cA39, cA40, cA41, cA42, cA1, cA43, cA44, cA45, cA46] : List ClassId).getD (k - 48) cA1)) [45, 44, 43, 42, 41, 40, 39, 38, 37, 36, 35, 34, 33, 32, 31, 30, 29, 28, 27, 26, 25, 24, 23, 22, 21, 20, 19, 18, 17, 16, 15, 14, 13, 12, 11, 10, 9, 8, 7, 6, 5, 4, 3, 2, 1, 0] rfl
  obtain ⟨am, tm, hP, hD, hK⟩ : ∃ (am : Nat → Nat) (tm : Nat → ClassId), va_P D vwCl (mW m0 am tm (fun _ => 0) 0 (fun _ _ => 0) (fun _ _ => 0)) H ∧ va_D A (mW m0 am tm (fun _ => 0) 0 (fun _ _ => 0) (fun _ _ => 0)) ∧ va_K D vwCl (mT tm) s := ⟨_, _, hP, hD, hK⟩
  refine lv_aload_n hx hb dX12_init_391 rfl (lv_at hl 0 rfl) ?_
  refine mget_3 hx hb hts (fun _ h => List.mem_cons_of_mem _ (List.mem_append_right _ h)) hown hK hP (hts (.fieldLink RX12 13 "TalePlayModel" "parentOf" "[I") (List.mem_cons_of_mem _ (List.mem_append_left _ (List.mem_append_left _ (List.mem_of_getElem? (i := 5) rfl))))) dX12_init_392 ?_
  refine lv_iconst (v := 0) hx hb dX12_init_395 (by decide +kernel) ?_
  refine lv_bipush (v := (-9)) hx hb dX12_init_396 (by decide +kernel) ?_
  refine mst_3 hx hb hK hP hD hS (show vp_in 0 24 from by unfold vp_in; decide) dX12_init_398 (fun H locs hP hD hS => ?_)
  have hP : va_P D vwCl (mW m0 am tm (fun _ => 0) 0 (updA (fun _ _ => 0) 3 (0 : Int32).toNatClampNeg (-9)) (fun _ _ => 0)) H := hP
  have hD : va_D A (mW m0 am tm (fun _ => 0) 0 (updA (fun _ _ => 0) 3 (0 : Int32).toNatClampNeg (-9)) (fun _ _ => 0)) := hD
  refine lv_aload_n hx hb dX12_init_399 rfl (lv_at hl 0 rfl) ?_
  refine mget_3 hx hb hts (fun _ h => List.mem_cons_of_mem _ (List.mem_append_right _ h)) hown hK hP (hts (.fieldLink RX12 13 "TalePlayModel" "parentOf" "[I") (List.mem_cons_of_mem _ (List.mem_append_left _ (List.mem_append_left _ (List.mem_of_getElem? (i := 5) rfl))))) dX12_init_400 ?_
  refine lv_iconst (v := 1) hx hb dX12_init_403 (by decide +kernel) ?_
  refine lv_bipush (v := (-9)) hx hb dX12_init_404 (by decide +kernel) ?_
  refine mst_3 hx hb hK hP hD hS (show vp_in 1 24 from by unfold vp_in; decide) dX12_init_406 (fun H locs hP hD hS => ?_)
  have hP : va_P D vwCl (mW m0 am tm (fun _ => 0) 0 (updA (updA (fun _ _ => 0) 3 (0 : Int32).toNatClampNeg (-9)) 3 (1 : Int32).toNatClampNeg (-9)) (fun _ _ => 0)) H := hP
  have hD : va_D A (mW m0 am tm (fun _ => 0) 0 (updA (updA (fun _ _ => 0) 3 (0 : Int32).toNatClampNeg (-9)) 3 (1 : Int32).toNatClampNeg (-9)) (fun _ _ => 0)) := hD
  refine lv_iconst (v := 2) hx hb dX12_init_407 (by decide +kernel) ?_
  refine lv_istore_n (lv' := [(1, .int 2), (0, .ref m0)]) hx hb dX12_init_408 rfl hl (by decide +kernel) rfl (fun ls hl => ?_)
  refine lv_iload_n hx hb dX12_init_409 rfl (lv_at hl 0 rfl) ?_
  refine lv_bipush (v := 6) hx hb dX12_init_410 (by decide +kernel) ?_
  refine lv_icmp_ge (tgt := 428) hx hb dX12_init_412 (by decide +kernel) (fun q9 => absurd q9 (by decide +kernel)) (fun _ => ?_)
  refine lv_aload_n hx hb dX12_init_415 rfl (lv_at hl 1 rfl) ?_
  refine mget_3 hx hb hts (fun _ h => List.mem_cons_of_mem _ (List.mem_append_right _ h)) hown hK hP (hts (.fieldLink RX12 13 "TalePlayModel" "parentOf" "[I") (List.mem_cons_of_mem _ (List.mem_append_left _ (List.mem_append_left _ (List.mem_of_getElem? (i := 5) rfl))))) dX12_init_416 ?_
  refine lv_iload_n hx hb dX12_init_419 rfl (lv_at hl 0 rfl) ?_
  refine lv_iconst (v := 1) hx hb dX12_init_420 (by decide +kernel) ?_
  refine mst_3 hx hb hK hP hD hS (show vp_in 2 24 from by unfold vp_in; decide) dX12_init_421 (fun H locs hP hD hS => ?_)
  have hP : va_P D vwCl (mW m0 am tm (fun _ => 0) 0 (updA (updA (updA (fun _ _ => 0) 3 (0 : Int32).toNatClampNeg (-9)) 3 (1 : Int32).toNatClampNeg (-9)) 3 (2 : Int32).toNatClampNeg 1) (fun _ _ => 0)) H := hP
  have hD : va_D A (mW m0 am tm (fun _ => 0) 0 (updA (updA (updA (fun _ _ => 0) 3 (0 : Int32).toNatClampNeg (-9)) 3 (1 : Int32).toNatClampNeg (-9)) 3 (2 : Int32).toNatClampNeg 1) (fun _ _ => 0)) := hD
  refine lv_iinc (v := 3) (lv' := [(1, .int 3), (0, .ref m0)]) hx hb dX12_init_422 hl (k := 0) rfl (by decide +kernel) (by decide +kernel) rfl (fun ls hl => ?_)
  refine lv_goto (tgt := 409) hx hb dX12_init_425 (by decide +kernel) ?_
  refine lv_iload_n hx hb dX12_init_409 rfl (lv_at hl 0 rfl) ?_
  refine lv_bipush (v := 6) hx hb dX12_init_410 (by decide +kernel) ?_
  refine lv_icmp_ge (tgt := 428) hx hb dX12_init_412 (by decide +kernel) (fun q9 => absurd q9 (by decide +kernel)) (fun _ => ?_)
  refine lv_aload_n hx hb dX12_init_415 rfl (lv_at hl 1 rfl) ?_
  refine mget_3 hx hb hts (fun _ h => List.mem_cons_of_mem _ (List.mem_append_right _ h)) hown hK hP (hts (.fieldLink RX12 13 "TalePlayModel" "parentOf" "[I") (List.mem_cons_of_mem _ (List.mem_append_left _ (List.mem_append_left _ (List.mem_of_getElem? (i := 5) rfl))))) dX12_init_416 ?_
  refine lv_iload_n hx hb dX12_init_419 rfl (lv_at hl 0 rfl) ?_
  refine lv_iconst (v := 1) hx hb dX12_init_420 (by decide +kernel) ?_
  refine mst_3 hx hb hK hP hD hS (show vp_in 3 24 from by unfold vp_in; decide) dX12_init_421 (fun H locs hP hD hS => ?_)
  have hP : va_P D vwCl (mW m0 am tm (fun _ => 0) 0 (updA (updA (updA (updA (fun _ _ => 0) 3 (0 : Int32).toNatClampNeg (-9)) 3 (1 : Int32).toNatClampNeg (-9)) 3 (2 : Int32).toNatClampNeg 1) 3 (3 : Int32).toNatClampNeg 1) (fun _ _ => 0)) H := hP
  have hD : va_D A (mW m0 am tm (fun _ => 0) 0 (updA (updA (updA (updA (fun _ _ => 0) 3 (0 : Int32).toNatClampNeg (-9)) 3 (1 : Int32).toNatClampNeg (-9)) 3 (2 : Int32).toNatClampNeg 1) 3 (3 : Int32).toNatClampNeg 1) (fun _ _ => 0)) := hD
  refine lv_iinc (v := 4) (lv' := [(1, .int 4), (0, .ref m0)]) hx hb dX12_init_422 hl (k := 0) rfl (by decide +kernel) (by decide +kernel) rfl (fun ls hl => ?_)
  refine lv_goto (tgt := 409) hx hb dX12_init_425 (by decide +kernel) ?_
  refine lv_iload_n hx hb dX12_init_409 rfl (lv_at hl 0 rfl) ?_
  refine lv_bipush (v := 6) hx hb dX12_init_410 (by decide +kernel) ?_
  refine lv_icmp_ge (tgt := 428) hx hb dX12_init_412 (by decide +kernel) (fun q9 => absurd q9 (by decide +kernel)) (fun _ => ?_)
  refine lv_aload_n hx hb dX12_init_415 rfl (lv_at hl 1 rfl) ?_
  refine mget_3 hx hb hts (fun _ h => List.mem_cons_of_mem _ (List.mem_append_right _ h)) hown hK hP (hts (.fieldLink RX12 13 "TalePlayModel" "parentOf" "[I") (List.mem_cons_of_mem _ (List.mem_append_left _ (List.mem_append_left _ (List.mem_of_getElem? (i := 5) rfl))))) dX12_init_416 ?_
  refine lv_iload_n hx hb dX12_init_419 rfl (lv_at hl 0 rfl) ?_
  refine lv_iconst (v := 1) hx hb dX12_init_420 (by decide +kernel) ?_
  refine mst_3 hx hb hK hP hD hS (show vp_in 4 24 from by unfold vp_in; decide) dX12_init_421 (fun H locs hP hD hS => ?_)
  have hP : va_P D vwCl (mW m0 am tm (fun _ => 0) 0 (updA (updA (updA (updA (updA (fun _ _ => 0) 3 (0 : Int32).toNatClampNeg (-9)) 3 (1 : Int32).toNatClampNeg (-9)) 3 (2 : Int32).toNatClampNeg 1) 3 (3 : Int32).toNatClampNeg 1) 3 (4 : Int32).toNatClampNeg 1) (fun _ _ => 0)) H := hP
  have hD : va_D A (mW m0 am tm (fun _ => 0) 0 (updA (updA (updA (updA (updA (fun _ _ => 0) 3 (0 : Int32).toNatClampNeg (-9)) 3 (1 : Int32).toNatClampNeg (-9)) 3 (2 : Int32).toNatClampNeg 1) 3 (3 : Int32).toNatClampNeg 1) 3 (4 : Int32).toNatClampNeg 1) (fun _ _ => 0)) := hD
  refine lv_iinc (v := 5) (lv' := [(1, .int 5), (0, .ref m0)]) hx hb dX12_init_422 hl (k := 0) rfl (by decide +kernel) (by decide +kernel) rfl (fun ls hl => ?_)
  refine lv_goto (tgt := 409) hx hb dX12_init_425 (by decide +kernel) ?_
  refine lv_iload_n hx hb dX12_init_409 rfl (lv_at hl 0 rfl) ?_
  refine lv_bipush (v := 6) hx hb dX12_init_410 (by decide +kernel) ?_
  refine lv_icmp_ge (tgt := 428) hx hb dX12_init_412 (by decide +kernel) (fun q9 => absurd q9 (by decide +kernel)) (fun _ => ?_)
  refine lv_aload_n hx hb dX12_init_415 rfl (lv_at hl 1 rfl) ?_
  refine mget_3 hx hb hts (fun _ h => List.mem_cons_of_mem _ (List.mem_append_right _ h)) hown hK hP (hts (.fieldLink RX12 13 "TalePlayModel" "parentOf" "[I") (List.mem_cons_of_mem _ (List.mem_append_left _ (List.mem_append_left _ (List.mem_of_getElem? (i := 5) rfl))))) dX12_init_416 ?_
  refine lv_iload_n hx hb dX12_init_419 rfl (lv_at hl 0 rfl) ?_
  refine lv_iconst (v := 1) hx hb dX12_init_420 (by decide +kernel) ?_
  refine mst_3 hx hb hK hP hD hS (show vp_in 5 24 from by unfold vp_in; decide) dX12_init_421 (fun H locs hP hD hS => ?_)
  have hP : va_P D vwCl (mW m0 am tm (fun _ => 0) 0 (updA (updA (updA (updA (updA (updA (fun _ _ => 0) 3 (0 : Int32).toNatClampNeg (-9)) 3 (1 : Int32).toNatClampNeg (-9)) 3 (2 : Int32).toNatClampNeg 1) 3 (3 : Int32).toNatClampNeg 1) 3 (4 : Int32).toNatClampNeg 1) 3 (5 : Int32).toNatClampNeg 1) (fun _ _ => 0)) H := hP
  have hD : va_D A (mW m0 am tm (fun _ => 0) 0 (updA (updA (updA (updA (updA (updA (fun _ _ => 0) 3 (0 : Int32).toNatClampNeg (-9)) 3 (1 : Int32).toNatClampNeg (-9)) 3 (2 : Int32).toNatClampNeg 1) 3 (3 : Int32).toNatClampNeg 1) 3 (4 : Int32).toNatClampNeg 1) 3 (5 : Int32).toNatClampNeg 1) (fun _ _ => 0)) := hD
  refine lv_iinc (v := 6) (lv' := [(1, .int 6), (0, .ref m0)]) hx hb dX12_init_422 hl (k := 0) rfl (by decide +kernel) (by decide +kernel) rfl (fun ls hl => ?_)
  refine lv_goto (tgt := 409) hx hb dX12_init_425 (by decide +kernel) ?_
  refine lv_iload_n hx hb dX12_init_409 rfl (lv_at hl 0 rfl) ?_
  refine lv_bipush (v := 6) hx hb dX12_init_410 (by decide +kernel) ?_
  refine lv_icmp_ge (tgt := 428) hx hb dX12_init_412 (by decide +kernel) (fun _ => ?_) (fun q9 => absurd (by decide +kernel) q9)
  refine lv_aload_n hx hb dX12_init_428 rfl (lv_at hl 1 rfl) ?_
  refine lv_bipush (v := 6) hx hb dX12_init_429 (by decide +kernel) ?_
  refine mput_2 hx hb hts (fun _ h => List.mem_cons_of_mem _ (List.mem_append_right _ h)) hown hK hP hD hS (hts (.fieldLink RX12 151 "TalePlayModel" "kinds" "I") (List.mem_cons_of_mem _ (List.mem_append_left _ (List.mem_append_right _ (List.mem_append_right _ (List.mem_append_right _ (List.mem_of_getElem? (i := 5) rfl))))))) rfl rfl dX12_init_431 (fun H locs hP hD hS => ?_)
  have hP : va_P D vwCl (mW m0 am tm (upd (fun _ => 0) 2 6) 0 (updA (updA (updA (updA (updA (updA (fun _ _ => 0) 3 (0 : Int32).toNatClampNeg (-9)) 3 (1 : Int32).toNatClampNeg (-9)) 3 (2 : Int32).toNatClampNeg 1) 3 (3 : Int32).toNatClampNeg 1) 3 (4 : Int32).toNatClampNeg 1) 3 (5 : Int32).toNatClampNeg 1) (fun _ _ => 0)) H := hP
  have hD : va_D A (mW m0 am tm (upd (fun _ => 0) 2 6) 0 (updA (updA (updA (updA (updA (updA (fun _ _ => 0) 3 (0 : Int32).toNatClampNeg (-9)) 3 (1 : Int32).toNatClampNeg (-9)) 3 (2 : Int32).toNatClampNeg 1) 3 (3 : Int32).toNatClampNeg 1) 3 (4 : Int32).toNatClampNeg 1) 3 (5 : Int32).toNatClampNeg 1) (fun _ _ => 0)) := hD
  refine lv_iconst (v := 0) hx hb dX12_init_434 (by decide +kernel) ?_
  refine lv_istore_n (lv' := [(1, .int 0), (0, .ref m0)]) hx hb dX12_init_435 rfl hl (by decide +kernel) rfl (fun ls hl => ?_)
  refine mloop hx hb hts hown hK (fun gd H locs ls x hgd hP hD hS hl => ?_) 145 0 0 (fun _ => 0) (by omega) (by omega) nI_0.symm (fun j => by rw [if_neg (by omega)]) H locs ls (show va_P D vwCl (mW m0 am tm (upd (fun _ => 0) 2 6) 0 (updF (updA (updA (updA (updA (updA (updA (fun _ _ => 0) 3 (0 : Int32).toNatClampNeg (-9)) 3 (1 : Int32).toNatClampNeg (-9)) 3 (2 : Int32).toNatClampNeg 1) 3 (3 : Int32).toNatClampNeg 1) 3 (4 : Int32).toNatClampNeg 1) 3 (5 : Int32).toNatClampNeg 1) 4 (fun _ => 0)) (fun _ _ => 0)) H from hP) (show va_D A (mW m0 am tm (upd (fun _ => 0) 2 6) 0 (updF (updA (updA (updA (updA (updA (updA (fun _ _ => 0) 3 (0 : Int32).toNatClampNeg (-9)) 3 (1 : Int32).toNatClampNeg (-9)) 3 (2 : Int32).toNatClampNeg 1) 3 (3 : Int32).toNatClampNeg 1) 3 (4 : Int32).toNatClampNeg 1) 3 (5 : Int32).toNatClampNeg 1) 4 (fun _ => 0)) (fun _ _ => 0)) from hD) hS (lv_sub hl [0, 1] rfl)
  obtain rfl : gd = fdM := funext hgd
  refine lv_aload_n hx hb dX12_init_457 rfl (lv_at hl 1 rfl) ?_
  refine lv_bipush (v := (-9)) hx hb dX12_init_458 (by decide +kernel) ?_
  refine mput_22 hx hb hts (fun _ h => List.mem_cons_of_mem _ (List.mem_append_right _ h)) hown hK hP hD hS (hts (.fieldLink RX12 155 "TalePlayModel" "player" "I") (List.mem_cons_of_mem _ (List.mem_append_left _ (List.mem_append_right _ (List.mem_append_right _ (List.mem_append_right _ (List.mem_of_getElem? (i := 6) rfl))))))) rfl rfl dX12_init_460 (fun H locs hP hD hS => ?_)
  have hP : va_P D vwCl (mW m0 am tm (upd (upd (fun _ => 0) 2 6) 22 (-9)) 0 (updF (updA (updA (updA (updA (updA (updA (fun _ _ => 0) 3 (0 : Int32).toNatClampNeg (-9)) 3 (1 : Int32).toNatClampNeg (-9)) 3 (2 : Int32).toNatClampNeg 1) 3 (3 : Int32).toNatClampNeg 1) 3 (4 : Int32).toNatClampNeg 1) 3 (5 : Int32).toNatClampNeg 1) 4 fdM) (fun _ _ => 0)) H := hP
  have hD : va_D A (mW m0 am tm (upd (upd (fun _ => 0) 2 6) 22 (-9)) 0 (updF (updA (updA (updA (updA (updA (updA (fun _ _ => 0) 3 (0 : Int32).toNatClampNeg (-9)) 3 (1 : Int32).toNatClampNeg (-9)) 3 (2 : Int32).toNatClampNeg 1) 3 (3 : Int32).toNatClampNeg 1) 3 (4 : Int32).toNatClampNeg 1) 3 (5 : Int32).toNatClampNeg 1) 4 fdM) (fun _ _ => 0)) := hD
  refine lv_aload_n hx hb dX12_init_463 rfl (lv_at hl 1 rfl) ?_
  refine lv_bipush (v := (-9)) hx hb dX12_init_464 (by decide +kernel) ?_
  refine mput_57 hx hb hts (fun _ h => List.mem_cons_of_mem _ (List.mem_append_right _ h)) hown hK hP hD hS (hts (.fieldLink RX12 158 "TalePlayModel" "soughtMany" "I") (List.mem_cons_of_mem _ (List.mem_append_left _ (List.mem_append_right _ (List.mem_append_right _ (List.mem_append_right _ (List.mem_of_getElem? (i := 7) rfl))))))) rfl rfl dX12_init_466 (fun H locs hP hD hS => ?_)
  have hP : va_P D vwCl (mW m0 am tm (upd (upd (upd (fun _ => 0) 2 6) 22 (-9)) 57 (-9)) 0 (updF (updA (updA (updA (updA (updA (updA (fun _ _ => 0) 3 (0 : Int32).toNatClampNeg (-9)) 3 (1 : Int32).toNatClampNeg (-9)) 3 (2 : Int32).toNatClampNeg 1) 3 (3 : Int32).toNatClampNeg 1) 3 (4 : Int32).toNatClampNeg 1) 3 (5 : Int32).toNatClampNeg 1) 4 fdM) (fun _ _ => 0)) H := hP
  have hD : va_D A (mW m0 am tm (upd (upd (upd (fun _ => 0) 2 6) 22 (-9)) 57 (-9)) 0 (updF (updA (updA (updA (updA (updA (updA (fun _ _ => 0) 3 (0 : Int32).toNatClampNeg (-9)) 3 (1 : Int32).toNatClampNeg (-9)) 3 (2 : Int32).toNatClampNeg 1) 3 (3 : Int32).toNatClampNeg 1) 3 (4 : Int32).toNatClampNeg 1) 3 (5 : Int32).toNatClampNeg 1) 4 fdM) (fun _ _ => 0)) := hD
  exact rw_vret (am, tm) hx hb hr hlocks hS hK hP hD dX12_init_469 trivial

