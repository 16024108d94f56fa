/-! Arrays.fill(int[], int): every element becomes v -/
theorem fill_loop {p : Program} {l : Launch} {e : Env} {R : Room} {s : State} {m : MethodId} {args : Array Value} {below : List Frame} {meth : Method} {c : Code} {Q : State → Prop} {D : va_G} {A : Nat → Prop} {a n : Nat} {cA : ClassId} {v : Int32}
    (hx : p.tables.exec = Jvm.exec) (hb : c.code = cJ7_fill_53178) (hK : va_K D vwCl [(cA, .int)] s) (hn : n < 2147483648)
    (kk : ∀ (g : Nat → Int32) (H : Heap) (locs : List Loc) (ls : Array Slot), (∀ j, j < n → g j = v) → va_P D vwCl [(a, .inl (cA, n, .inl g))] H → va_D A [(a, .inl (cA, n, .inl g))] → va_S A s.heap H locs → W p l e R s m args below meth c H locs 0 0 Q (F0 m 20 ls [])) :
    ∀ (k i : Nat) (x : Int32) (g : Nat → Int32), i ≤ n → n < i + k → x = nI i → (∀ j, j < i → g j = v) → ∀ (H : Heap) (locs : List Loc) (ls : Array Slot), va_P D vwCl [(a, .inl (cA, n, .inl g))] H → va_D A [(a, .inl (cA, n, .inl g))] → va_S A s.heap H locs → lv_has ls 4 [(2, .int x), (3, .int (nI n)), (0, .ref a), (1, .int v)] → W p l e R s m args below meth c H locs 0 0 Q (F0 m 5 ls []) := by
  intro k
  induction k with
  | zero => intro i x g h1 h2; omega
  | succ k ih =>
    intro i x g hin hik ex hg H locs ls hP hD hS hl
    refine lv_iload_n hx hb dJ7_fill_53178_5 rfl (lv_at hl 0 rfl) ?_
    refine lv_iload_n hx hb dJ7_fill_53178_6 rfl (lv_at hl 1 rfl) ?_
    refine lv_icmp_ge (tgt := 20) hx hb dJ7_fill_53178_7 (by decide +kernel) (fun c1 => ?_) (fun c1 => ?_)
    · have hi : i = n := by
        rcases Nat.lt_or_ge i n with q | q
        · exact absurd (by rw [ex] at c1; exact c1) (nI_ge q hn)
        · omega
      subst hi
      exact kk g H locs ls hg hP hD hS
    · have hi : i < n := by
        rcases Nat.lt_or_ge i n with q | q
        · exact q
        · exact absurd (by rw [ex]; exact nI_le q (by omega)) c1
      refine lv_aload_n hx hb dJ7_fill_53178_10 rfl (lv_at hl 2 rfl) ?_
      refine lv_iload_n hx hb dJ7_fill_53178_11 rfl (lv_at hl 0 rfl) ?_
      refine lv_iload_n hx hb dJ7_fill_53178_12 rfl (lv_at hl 3 rfl) ?_
      refine va_iast hx hb hK hP hD hS 0 0 rfl rfl (by rw [ex]; exact vp_in_nI hi hn) dJ7_fill_53178_13 (fun H locs hP hD hS => ?_)
      have hP : va_P D vwCl [(a, .inl (cA, n, .inl (upd g x.toNatClampNeg v)))] H := hP
      have hD : va_D A [(a, .inl (cA, n, .inl (upd g x.toNatClampNeg v)))] := hD
      obtain ⟨y, ey⟩ : ∃ y : Int32, y = x + 1 := ⟨_, rfl⟩
      refine lv_iinc (v := y) (lv' := [(2, .int y), (3, .int (nI n)), (0, .ref a), (1, .int v)]) hx hb dJ7_fill_53178_14 hl (k := 0) rfl (by rw [ey]; rfl) (by decide +kernel) rfl (fun ls hl => ?_)
      refine lv_goto (tgt := 5) hx hb dJ7_fill_53178_17 (by decide +kernel) ?_
      refine ih (i + 1) y _ hi (by omega) (by rw [ey, ex]; exact nI_1 i) (fun j hj => ?_) H locs ls hP hD hS hl
      rw [ex, nI_clamp (by omega)]
      by_cases q : j = i
      · subst q; exact pk_us
      · rw [pk_un q]; exact hg j (by omega)
theorem vp_eq {cA : ClassId} {n : Nat} {f g : Nat → Int32} (h : ∀ j, j < n → f j = g j) : vp_cell cA (n, .inl f) = vp_cell cA (n, .inl g) := by
  show arrV cA n (fun j => .int (f j)) = arrV cA n (fun j => .int (g j))
  have e : (fun j : Fin n => Value.int (f j.val)) = (fun j : Fin n => Value.int (g j.val)) := funext (fun j => by rw [h j.val j.isLt])
  unfold arrV
  rw [e]
theorem vp_1 {D : va_G} {a n : Nat} {cA : ClassId} {f : Nat → Int32} {v : Int32} {H : Heap} (h : ∀ j, j < n → f j = v) (hP : va_P D vwCl [(a, .inl (cA, n, .inl f))] H) : va_P D vwCl [(a, .inl (cA, n, .inl (fun _ => v)))] H := by
  intro k q hq
  have w : H[a]? = some (vp_cell cA (n, .inl f)) := hP 0 _ rfl
  cases k with
  | zero =>
    have e : (a, Sum.inl (cA, n, Sum.inl (fun _ => v))) = q := Option.some.inj hq
    subst e
    show H[a]? = some (vp_cell cA (n, .inl (fun _ => v)))
    rw [w, vp_eq h]
  | succ k => exact absurd hq (by simp)
theorem vd_1 {A : Nat → Prop} {a : Nat} {x y : va_E} (h : va_D A [(a, x)]) : va_D A [(a, y)] := by
  refine ⟨fun i j p q hi hj _ => ?_, fun k q hk => ?_⟩
  · cases i with
    | succ i => exact absurd hi (by simp)
    | zero =>
      cases j with
      | succ j => exact absurd hj (by simp)
      | zero => rfl
  · cases k with
    | succ k => exact absurd hk (by simp)
    | zero =>
      have e : (a, y) = q := Option.some.inj hk
      subst e
      exact h.2 0 (a, x) rfl
def wm_J7_fill_53178 : List Cond := .code yJ7_fill_53178 cJ7_fill_53178 4 none :: (([] : List Cond))
set_option maxHeartbeats 4000000 in
set_option maxRecDepth 100000 in
theorem c_fill2 (l : Launch) (D : va_G) (sz : Nat) (a : Nat) (cA : ClassId) (n : Nat) (f : Nat → Int32) (v : Int32) (hn : n < 2147483648) : Met l yJ7_fill_53178 wm_J7_fill_53178 ({ frames := 0, cells := 0, slots := 0, locals := 0 }) (va_Pc [.ref a, .int v] (pB D sz [(a, .inl (cA, n, .inl f))] [(cA, .int)])) (va_Qv (fun (_ : Unit) => True) (oC D (va_A [(a, .inl (cA, n, .inl f))] sz) (fun _ => [(a, .inl (cA, n, .inl (fun _ => v)))]) (fun _ => [])) (va_A [(a, .inl (cA, n, .inl f))] sz)) 0 0 (va_A [(a, .inl (cA, n, .inl f))] sz) := by
  refine Met.ofW (cc := cJ7_fill_53178) (maxL := 4) (ret := none) (by decide +kernel) rfl ?_
  intro p e s m args below meth c s₁ B hml hv
  obtain ⟨rfl, hsz, hP, hK, hD0⟩ := hv
  have hx := B.exec
  have hb := B.bytes
  have hr := B.returns
  have hlocks := B.notSynchronized
  subst hsz
  have hD := hD0.self (sz := s.heap.size)
  generalize hAe : va_A [(a, .inl (cA, n, .inl f))] s.heap.size = A at hD ⊢
  have hS : va_S A s.heap s.heap [] := va_S.rf
  have hP : va_P D vwCl [(a, .inl (cA, n, .inl f))] s.heap := hP
  have hl := lv_entry ([.ref a, .int v]) (n := 4) (Nat.le_of_ble_eq_true rfl)
  rw [lg_entry_eq]
  generalize (lg_sl ([.ref a, .int v]) ++ List.replicate (4 - (lg_sl ([.ref a, .int v])).length) Slot.unset).toArray = ls at hl ⊢
  have hl : lv_has ls 4 [(0, .ref a), (1, .int v)] := hl
  refine lv_iconst (v := 0) hx hb dJ7_fill_53178_0 (by decide +kernel) ?_
  refine lv_istore_n (lv' := [(2, .int 0), (0, .ref a), (1, .int v)]) hx hb dJ7_fill_53178_1 rfl hl (by decide +kernel) rfl (fun ls hl => ?_)
  refine lv_aload_n hx hb dJ7_fill_53178_2 rfl (lv_at hl 1 rfl) ?_
  refine va_alen (v := nI n) hx hb hK hP 0 0 rfl rfl rfl dJ7_fill_53178_3 ?_
  refine lv_istore_n (lv' := [(3, .int (nI n)), (2, .int 0), (0, .ref a), (1, .int v)]) hx hb dJ7_fill_53178_4 rfl hl (by decide +kernel) rfl (fun ls hl => ?_)
  refine fill_loop hx hb hK hn (fun g H locs ls hg hP hD hS => ?_) (n + 1) 0 0 f (Nat.zero_le _) (by omega) nI_0.symm (fun j hj => absurd hj (Nat.not_lt_zero j)) s.heap [] ls hP hD hS (lv_sub hl [1, 0, 2, 3] rfl)
  exact rw_vret () hx hb hr hlocks hS (hK.sub [] rfl) (vp_1 hg hP) (vd_1 hD) dJ7_fill_53178_20 trivial

