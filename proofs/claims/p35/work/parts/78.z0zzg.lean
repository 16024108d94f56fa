/-! the reference's search, told over the class's rows -/
abbrev CeT : Type := Nat → Int32
abbrev RlT : Type := CeT → CeT → CeT → CeT → CeT → Prop
abbrev OkT : Type := CeT → Int → Int → Int → Prop
abbrev NxT : Type := CeT → Int → Int → Int → CeT
abbrev SmT : Type := CeT → CeT → Prop
abbrev GlT : Type := CeT → Prop
abbrev FlT : Type := OkT → NxT → SmT → GlT → Acc CeT → Acc CeT
abbrev SiT : Type := RlT → OkT → NxT → SmT → GlT → Prop
/-- the rows z and F, A, O, L are alike: so are reasons, ends, goals -/
def SiH (R : RlT) (ok : OkT) (nx : NxT) (sm : SmT) (gl : GlT) (N gx gy : Int) (T : CeT → CeT → Prop) (X : Int → Int → Int → CeT → CeT → CeT → CeT → Int32 → Prop) (C : Int → Int → Int → CeT → CeT → CeT → CeT → CeT → CeT → CeT → CeT → Prop) : Prop :=
  (∀ v x y, TrA N v x y → ∀ z F A O L r, R z F A O L → T F A → X v x y F A O L r → (r.toInt = 0 ↔ ok z v x y)) ∧
  (∀ v x y, TrA N v x y → ∀ z F A O L F2 A2 O2 L2, R z F A O L → T F A → T F2 A2 → ok z v x y → C v x y F A O L F2 A2 O2 L2 → R (nx z v x y) F2 A2 O2 L2) ∧
  (∀ z z2 F A O L F2 A2 O2 L2, R z F A O L → R z2 F2 A2 O2 L2 → (sm z z2 ↔ Sk4 F A O L F2 A2 O2 L2 N)) ∧
  (∀ z F A O L, R z F A O L → (gl z ↔ (¬ (F gx.toNat).toInt = -9 ∧ (A gx.toNat).toInt = gy))) ∧
  (∀ z F A O L F2 A2 O2 L2, R z F A O L → Sk4 F2 A2 O2 L2 F A O L N → R z F2 A2 O2 L2)
/-- the reference's arrays stand for a search -/
def RpM (R : RlT) (N : Int) (a b d fr ac : CeT) (st : Int32) (B : Acc CeT) : Prop := st.toInt = (B.2.2.2.1 : Int) ∧ ∀ k : Nat, k < B.2.2.2.1 → (∀ F A O L, GB F A a b k N → GS O L d k N → R (B.1 k) F A O L) ∧ (0 < k → (fr k).toInt = B.2.1 k ∧ (ac (3 * k)).toInt = (B.2.2.1 k).1 ∧ (ac (3 * k + 1)).toInt = (B.2.2.1 k).2.1 ∧ (ac (3 * k + 2)).toInt = (B.2.2.1 k).2.2)
def FdM (r : Int) (B : Acc CeT) : Prop := (r = 0 ∧ B.2.2.2.2 = -9) ∨ (r = 1 ∧ B.2.2.2.2 = (B.2.2.2.1 : Int) - 1 ∧ 0 < B.2.2.2.1)
def SsM (S : SiT) (N : Int) (a b d fr ac : CeT) (st : Int32) (a2 b2 d2 fr2 ac2 : CeT) (st2 : Int32) (r : Int) (f : FlT) : Prop := ∀ R ok nx sm gl, S R ok nx sm gl → ∀ B, RpM R N a b d fr ac st B → B.2.2.2.2 = -9 → RpM R N a2 b2 d2 fr2 ac2 st2 (f ok nx sm gl B) ∧ FdM r (f ok nx sm gl B)
/-- state k is what stands now -/
def IsS (N : Int) (a b d : CeT) (k : Nat) (F A O L : CeT) : Prop := ∀ o : Nat, (o : Int) < N → a (30 * k + o) = F o ∧ b (30 * k + o) = A o ∧ (d (30 * k + o)).toInt = (O o).toInt + 2 * (L o).toInt
theorem Sk4_s {N : Int} {a b d F A O L F2 A2 O2 L2 : CeT} {k : Nat} (g1 : GB F A a b k N) (g2 : GS O L d k N) (hd : ∀ j, 0 ≤ (d j).toInt ∧ (d j).toInt ≤ 3) (hO : ∀ j, 0 ≤ (O2 j).toInt ∧ (O2 j).toInt ≤ 1) (hL : ∀ j, 0 ≤ (L2 j).toInt ∧ (L2 j).toInt ≤ 1) : Sk4 F A O L F2 A2 O2 L2 N ↔ IsS N a b d k F2 A2 O2 L2 := by
  constructor
  · intro h o ho
    have q := h o ho
    have u := g1 o ho
    have w := g2 o ho
    have x3 := hd (30 * k + o)
    refine ⟨by rw [← u.1]; exact q.1, by rw [← u.2]; exact q.2.1, ?_⟩
    rw [q.2.2.1, q.2.2.2] at w
    omega
  · intro h o ho
    have q := h o ho
    have u := g1 o ho
    have w := g2 o ho
    have x1 := hO o
    have x2 := hL o
    have x3 := hd (30 * k + o)
    have q3 := q.2.2
    exact ⟨by rw [u.1]; exact q.1, by rw [u.2]; exact q.2.1, Int32.toInt_inj.mp (by omega), Int32.toInt_inj.mp (by omega)⟩
def roO (d : CeT) (k o : Nat) : Int32 := if (d (30 * k + o)).toInt % 2 = 1 then 1 else 0
def roL (d : CeT) (k o : Nat) : Int32 := if (d (30 * k + o)).toInt / 2 = 1 then 1 else 0
theorem ro_gs {d : CeT} {k : Nat} {N : Int} (hd : ∀ j, 0 ≤ (d j).toInt ∧ (d j).toInt ≤ 3) : GS (roO d k) (roL d k) d k N := fun o _ => by
  have x3 := hd (30 * k + o)
  have e1 : (1 : Int32).toInt = 1 := by decide
  have e0 : (0 : Int32).toInt = 0 := by decide
  unfold roO roL
  constructor
  · by_cases q : (d (30 * k + o)).toInt % 2 = 1
    · rw [if_pos q]; omega
    · rw [if_neg q]; omega
  · by_cases q : (d (30 * k + o)).toInt / 2 = 1
    · rw [if_pos q]; omega
    · rw [if_neg q]; omega
theorem SmB_M {R : RlT} {ok : OkT} {nx : NxT} {sm : SmT} {gl : GlT} {N gx gy : Int} {T : CeT → CeT → Prop} {X : Int → Int → Int → CeT → CeT → CeT → CeT → Int32 → Prop} {C : Int → Int → Int → CeT → CeT → CeT → CeT → CeT → CeT → CeT → CeT → Prop} {a b d fr ac F2 A2 O2 L2 z : CeT} {st : Int32} {B : Acc CeT} (hS : SiH R ok nx sm gl N gx gy T X C) (h : RpM R N a b d fr ac st B) (hz : R z F2 A2 O2 L2) (hd : ∀ j, 0 ≤ (d j).toInt ∧ (d j).toInt ≤ 3) (hO : ∀ j, 0 ≤ (O2 j).toInt ∧ (O2 j).toInt ≤ 1) (hL : ∀ j, 0 ≤ (L2 j).toInt ∧ (L2 j).toInt ≤ 1) : SmB sm B z ↔ ∃ k : Nat, (k : Int) < st.toInt ∧ IsS N a b d k F2 A2 O2 L2 := by
  have e : ∀ k, k < B.2.2.2.1 → (sm (B.1 k) z ↔ IsS N a b d k F2 A2 O2 L2) := fun k hk => by
    have g1 : GB (fun o => a (30 * k + o)) (fun o => b (30 * k + o)) a b k N := fun _ _ => ⟨rfl, rfl⟩
    have g2 : GS (roO d k) (roL d k) d k N := ro_gs hd
    exact (hS.2.2.1 _ _ _ _ _ _ _ _ _ _ ((h.2 k hk).1 _ _ _ _ g1 g2) hz).trans (Sk4_s g1 g2 hd hO hL)
  have h1 := h.1
  constructor
  · rintro ⟨k, hk, w⟩; exact ⟨k, by omega, (e k hk).mp w⟩
  · rintro ⟨k, hk, w⟩; exact ⟨k, by omega, (e k (by omega)).mpr w⟩
/-- is what stands new? the loop's picture -/
def NwK (N : Int) (a b d : CeT) (st : Int) (F A O L : CeT) (f x : Int) : Prop := (f = 1 ∧ ∀ k : Nat, (k : Int) < x → ¬ IsS N a b d k F A O L) ∨ (f = 0 ∧ ∃ k : Nat, (k : Int) < st ∧ IsS N a b d k F A O L)
theorem NwK_0 {N : Int} {a b d : CeT} {st : Int} {F A O L : CeT} {f x : Int32} (hf : f.toInt = 1) (hx : x.toInt = 0) : NwK N a b d st F A O L f.toInt x.toInt := Or.inl ⟨hf, fun k hk => by omega⟩
theorem NwK_n {N : Int} {a b d : CeT} {st : Int} {F A O L : CeT} {f g : Int} {x y : Int32} (h : NwK N a b d st F A O L f x.toInt) (hf : ¬ f = 0) (h0 : 0 ≤ x.toInt) (hn : ¬ IsS N a b d x.toInt.toNat F A O L) (ey : y.toInt = x.toInt + 1) (hg : g = 1) : NwK N a b d st F A O L g y.toInt := by
  rcases h with ⟨_, h⟩ | ⟨h, _⟩
  · refine Or.inl ⟨hg, fun k hk => ?_⟩
    by_cases q : (k : Int) = x.toInt
    · rw [show k = x.toInt.toNat by omega]; exact hn
    · exact h k (by omega)
  · exact absurd h hf
theorem NwK_y {N : Int} {a b d : CeT} {st : Int} {F A O L : CeT} {g y : Int} {x : Int32} (h0 : 0 ≤ x.toInt) (hs : x.toInt < st) (hn : IsS N a b d x.toInt.toNat F A O L) (hg : g = 0) : NwK N a b d st F A O L g y := Or.inr ⟨hg, x.toInt.toNat, by omega, hn⟩
/-- a state's row grows by one place -/
theorem IsS_s {N : Int} {a b d F A O L : CeT} {k : Nat} {x y : Int32} (h : IsS x.toInt a b d k F A O L) (h0 : 0 ≤ x.toInt) (ey : y.toInt = x.toInt + 1) (e1 : a (30 * k + x.toInt.toNat) = F x.toInt.toNat) (e2 : b (30 * k + x.toInt.toNat) = A x.toInt.toNat) (e3 : (d (30 * k + x.toInt.toNat)).toInt = (O x.toInt.toNat).toInt + 2 * (L x.toInt.toNat).toInt) (_ : x.toInt < N) : IsS y.toInt a b d k F A O L := fun o ho => by
  by_cases q : o = x.toInt.toNat
  · rw [q]; exact ⟨e1, e2, e3⟩
  · exact h o (by omega)
/-! steps put together -/
theorem SsM_t {S : SiT} {N : Int} {a b d fr ac a2 b2 d2 fr2 ac2 a3 b3 d3 fr3 ac3 : CeT} {st st2 st3 : Int32} {r : Int} {f g : FlT} (h : SsM S N a b d fr ac st a2 b2 d2 fr2 ac2 st2 0 f) (h2 : SsM S N a2 b2 d2 fr2 ac2 st2 a3 b3 d3 fr3 ac3 st3 r g) : SsM S N a b d fr ac st a3 b3 d3 fr3 ac3 st3 r (fun ok nx sm gl B => g ok nx sm gl (f ok nx sm gl B)) := fun R ok nx sm gl hS B hB hf => by
  have w := h R ok nx sm gl hS B hB hf
  have e : (f ok nx sm gl B).2.2.2.2 = -9 := by
    rcases w.2 with q | q
    · exact q.2
    · exact absurd q.1 (by decide +kernel)
  exact h2 R ok nx sm gl hS _ w.1 e
theorem SsM_c {S : SiT} {N : Int} {a b d fr ac a2 b2 d2 fr2 ac2 : CeT} {st st2 : Int32} {r : Int} {f g : FlT} (h : SsM S N a b d fr ac st a2 b2 d2 fr2 ac2 st2 r f) (e : ∀ ok nx sm gl B, g ok nx sm gl B = f ok nx sm gl B) : SsM S N a b d fr ac st a2 b2 d2 fr2 ac2 st2 r g := fun R ok nx sm gl hS B hB hf => by
  rw [e]; exact h R ok nx sm gl hS B hB hf
theorem SsM_e {S : SiT} {N : Int} {a b d fr ac a2 b2 d2 fr2 ac2 : CeT} {st st2 : Int32} {r : Int} {f g : FlT} (h : SsM S N a b d fr ac st a2 b2 d2 fr2 ac2 st2 r f) (hE : r = 1 ∨ 300 ≤ st2.toInt) (e : ∀ ok nx sm gl B, EnB (f ok nx sm gl B) → g ok nx sm gl B = f ok nx sm gl B) : SsM S N a b d fr ac st a2 b2 d2 fr2 ac2 st2 r g := fun R ok nx sm gl hS B hB hf => by
  have w := h R ok nx sm gl hS B hB hf
  have q : EnB (f ok nx sm gl B) := by
    rcases hE with z | z
    · refine Or.inl (fun u => ?_)
      rcases w.2 with t | t
      · have := t.1; omega
      · have := t.2.1; have := t.2.2; omega
    · refine Or.inr ?_
      have := w.1.1
      omega
  rw [e _ _ _ _ _ q]; exact w
noncomputable def pgM (N : Int) (s v x y : Nat) : FlT := fun ok nx sm gl B => fY (fun B (y : Nat) => stB ok nx sm gl s (v : Int) (x : Int) (y : Int) B) y (fY (fun B (x : Nat) => trY ok nx sm gl N s (v : Int) (x : Int) B) x (fY (fun B (v : Nat) => trX ok nx sm gl N s (v : Int) B) v B))
theorem SsM_0 {S : SiT} {N : Int} {a b d fr ac : CeT} {st : Int32} {s : Nat} : SsM S N a b d fr ac st a b d fr ac st 0 (pgM N s 0 0 0) := fun _ _ _ _ _ _ _ hB hf => ⟨hB, Or.inl ⟨rfl, hf⟩⟩
theorem pgM_y {N : Int} {s v x y : Nat} {ok : OkT} {nx : NxT} {sm : SmT} {gl : GlT} {B : Acc CeT} : pgM N s v x (y + 1) ok nx sm gl B = stB ok nx sm gl s (v : Int) (x : Int) (y : Int) (pgM N s v x y ok nx sm gl B) := by
  unfold pgM
  rw [fY_1]
theorem pgM_x {N : Int} {s v x : Nat} {ok : OkT} {nx : NxT} {sm : SmT} {gl : GlT} {B : Acc CeT} : pgM N s v (x + 1) 0 ok nx sm gl B = pgM N s v x (nY N (v : Int)) ok nx sm gl B := by
  unfold pgM
  rw [fY_0, fY_1]
  rfl
theorem pgM_v {N : Int} {s v : Nat} {ok : OkT} {nx : NxT} {sm : SmT} {gl : GlT} {B : Acc CeT} : pgM N s (v + 1) 0 0 ok nx sm gl B = pgM N s v (nX N (v : Int)) 0 ok nx sm gl B := by
  unfold pgM
  rw [fY_0, fY_0, fY_1, fY_0]
  rfl
theorem pgM_yk {N : Int} {s v x y : Nat} {ok : OkT} {nx : NxT} {sm : SmT} {gl : GlT} {B : Acc CeT} (h : EnB (pgM N s v x y ok nx sm gl B)) (hy : y ≤ nY N (v : Int)) : pgM N s v (x + 1) 0 ok nx sm gl B = pgM N s v x y ok nx sm gl B := by
  rw [pgM_x]
  unfold pgM at h ⊢
  exact fY_k (P := fun B => EnB B) (fun _ _ w => stB_e w) h _ hy
theorem pgM_xk {N : Int} {s v x : Nat} {ok : OkT} {nx : NxT} {sm : SmT} {gl : GlT} {B : Acc CeT} (h : EnB (pgM N s v x 0 ok nx sm gl B)) (hx : x ≤ nX N (v : Int)) : pgM N s (v + 1) 0 0 ok nx sm gl B = pgM N s v x 0 ok nx sm gl B := by
  rw [pgM_v]
  unfold pgM at h ⊢
  rw [fY_0] at h
  rw [fY_0, fY_0]
  exact fY_k (P := fun B => EnB B) (fun _ _ w => trY_e w) h _ hx
theorem pgM_vk {N : Int} {s v : Nat} {ok : OkT} {nx : NxT} {sm : SmT} {gl : GlT} {B : Acc CeT} (h : EnB (pgM N s v 0 0 ok nx sm gl B)) (hv : v ≤ 12) : trV ok nx sm gl N s B = pgM N s v 0 0 ok nx sm gl B := by
  unfold pgM at h ⊢
  rw [fY_0, fY_0] at h
  rw [fY_0, fY_0]
  exact fY_k (P := fun B => EnB B) (fun _ _ w => trX_e w) h _ hv
/-- the next act is tried -/
theorem SsM_n {S : SiT} {N : Int} {a b d fr ac a2 b2 d2 fr2 ac2 a3 b3 d3 fr3 ac3 : CeT} {st st2 st3 : Int32} {r : Int} {s : Nat} {v x y : Int32} (h : SsM S N a b d fr ac st a2 b2 d2 fr2 ac2 st2 0 (pgM N s v.toInt.toNat x.toInt.toNat y.toInt.toNat)) (h2 : SsM S N a2 b2 d2 fr2 ac2 st2 a3 b3 d3 fr3 ac3 st3 r (fun ok nx sm gl B => stB ok nx sm gl s v.toInt x.toInt y.toInt B)) (v0 : 0 ≤ v.toInt) (x0 : 0 ≤ x.toInt) (y0 : 0 ≤ y.toInt) : SsM S N a b d fr ac st a3 b3 d3 fr3 ac3 st3 r (pgM N s v.toInt.toNat x.toInt.toNat (y.toInt.toNat + 1)) := SsM_c (SsM_t h h2) (fun ok nx sm gl B => by
  rw [pgM_y, show ((v.toInt.toNat : Nat) : Int) = v.toInt by omega, show ((x.toInt.toNat : Nat) : Int) = x.toInt by omega, show ((y.toInt.toNat : Nat) : Int) = y.toInt by omega])
/-- the acts with all y are tried -/
theorem SsM_y {S : SiT} {N : Int} {a b d fr ac a2 b2 d2 fr2 ac2 : CeT} {st st2 : Int32} {s v x y : Nat} (h : SsM S N a b d fr ac st a2 b2 d2 fr2 ac2 st2 0 (pgM N s v x y)) (hy : y ≤ nY N (v : Int)) (hn : y = nY N (v : Int) ∨ 300 ≤ st2.toInt) : SsM S N a b d fr ac st a2 b2 d2 fr2 ac2 st2 0 (pgM N s v (x + 1) 0) := by
  rcases hn with q | q
  · subst q
    exact SsM_c h (fun _ _ _ _ _ => pgM_x)
  · exact SsM_e h (Or.inr q) (fun _ _ _ _ _ w => pgM_yk w hy)
theorem SsM_x {S : SiT} {N : Int} {a b d fr ac a2 b2 d2 fr2 ac2 : CeT} {st st2 : Int32} {s v x : Nat} (h : SsM S N a b d fr ac st a2 b2 d2 fr2 ac2 st2 0 (pgM N s v x 0)) (hx : x = nX N (v : Int)) : SsM S N a b d fr ac st a2 b2 d2 fr2 ac2 st2 0 (pgM N s (v + 1) 0 0) := by
  subst hx
  exact SsM_c h (fun _ _ _ _ _ => pgM_v)
theorem SsM_v {S : SiT} {N : Int} {a b d fr ac a2 b2 d2 fr2 ac2 : CeT} {st st2 : Int32} {s v : Nat} (h : SsM S N a b d fr ac st a2 b2 d2 fr2 ac2 st2 0 (pgM N s v 0 0)) (hv : v = 12) : SsM S N a b d fr ac st a2 b2 d2 fr2 ac2 st2 0 (fun ok nx sm gl B => trV ok nx sm gl N s B) := by
  subst hv
  exact SsM_c h (fun _ _ _ _ _ => rfl)
/-- the goal is met -/
theorem SsM_f {S : SiT} {N : Int} {a b d fr ac a2 b2 d2 fr2 ac2 : CeT} {st st2 : Int32} {s v x y : Nat} (h : SsM S N a b d fr ac st a2 b2 d2 fr2 ac2 st2 1 (pgM N s v x y)) (hv : v < 12) (hx : x < nX N (v : Int)) (hy : y ≤ nY N (v : Int)) : SsM S N a b d fr ac st a2 b2 d2 fr2 ac2 st2 1 (fun ok nx sm gl B => trV ok nx sm gl N s B) := SsM_e h (Or.inl rfl) (fun ok nx sm gl B w => by
  have e1 := pgM_yk w hy
  have w1 := w
  rw [← e1] at w1
  have e2 := pgM_xk w1 (by omega)
  rw [← e2] at w1
  have e3 := pgM_vk w1 (by omega)
  show trV ok nx sm gl N s B = _
  rw [e3, e2, e1])
/-! the way back, as the reference tells it -/
def ApM (pa : CeT) (f : Nat) (p x : Int) : Prop := 0 ≤ p ∧ x.toNat = anB (paI pa) p.toNat f ∧ ∀ j : Nat, (j : Int) < p → 0 < anB (paI pa) j f
theorem ApM_0 {pa : CeT} {f : Nat} {p x : Int32} (hp : p.toInt = 0) (hx : x.toInt.toNat = f) : ApM pa f p.toInt x.toInt := by
  rw [hp]
  exact ⟨Int.le_refl _, hx, fun j hj => by omega⟩
theorem ApM_s {pa : CeT} {f : Nat} {p q x y : Int32} (h : ApM pa f p.toInt x.toInt) (hx : 0 < x.toInt) (ey : y = pa x.toNatClampNeg) (eq : q.toInt = p.toInt + 1) : ApM pa f q.toInt y.toInt := by
  obtain ⟨h1, h2, h3⟩ := h
  have ex : x.toNatClampNeg = x.toInt.toNat := rfl
  refine ⟨by omega, ?_, fun j hj => ?_⟩
  · rw [show q.toInt.toNat = p.toInt.toNat + 1 by omega]
    show y.toInt.toNat = (pa (anB (paI pa) p.toInt.toNat f)).toInt.toNat
    rw [← h2, ey, ex]
  · by_cases g : (j : Int) = p.toInt
    · rw [show j = p.toInt.toNat by omega, ← h2]; omega
    · exact h3 j (by omega)
def FkM (fr ac sr : CeT) (f : Nat) (n t x : Int) : Prop := 0 ≤ t ∧ t ≤ n ∧ x.toNat = anB (paI fr) (n - t).toNat f ∧ ∀ j : Nat, (j : Int) < n - t → ∀ i : Nat, i < 3 → sr (3 * (n - 1 - (j : Int)).toNat + i) = ac (3 * anB (paI fr) j f + i)
def FkI (fr ac sr : CeT) (f : Nat) (n t x m : Int) : Prop := 0 ≤ t ∧ t < n ∧ x.toNat = anB (paI fr) (n - 1 - t).toNat f ∧ (∀ j : Nat, (j : Int) < n - 1 - t → ∀ i : Nat, i < 3 → sr (3 * (n - 1 - (j : Int)).toNat + i) = ac (3 * anB (paI fr) j f + i)) ∧ ∀ i : Nat, (i : Int) < m → sr (3 * t.toNat + i) = ac (3 * x.toNat + i)
theorem FkM_0 {fr ac sr : CeT} {f : Nat} {n t x : Int} (h0 : 0 ≤ n) (ht : t = n) (hx : x.toNat = f) : FkM fr ac sr f n t x := by
  subst ht
  refine ⟨h0, Int.le_refl _, ?_, fun j hj => by omega⟩
  rw [show (t - t).toNat = 0 by omega]; exact hx
theorem FkI_0 {fr ac sr : CeT} {f : Nat} {n x : Int} {t t2 m : Int32} (h : FkM fr ac sr f n t.toInt x) (ht : 1 ≤ t.toInt) (et : t2.toInt = t.toInt - 1) (hm : m.toInt = 0) : FkI fr ac sr f n t2.toInt x m.toInt := by
  obtain ⟨h1, h2, h3, h4⟩ := h
  refine ⟨by omega, by omega, ?_, fun j hj => h4 j (by omega), fun i hi => by omega⟩
  rw [show (n - 1 - t2.toInt).toNat = (n - t.toInt).toNat by omega]; exact h3
theorem FkI_s {fr ac sr : CeT} {f : Nat} {n : Int} {t x m m2 ix v : Int32} (h : FkI fr ac sr f n t.toInt x.toInt m.toInt) (hm : 0 ≤ m.toInt ∧ m.toInt < 3) (em : m2.toInt = m.toInt + 1) (ei : ix.toInt = 3 * t.toInt + m.toInt) (ev : v = ac (3 * x.toInt.toNat + m.toInt.toNat)) : FkI fr ac (upd sr ix.toNatClampNeg v) f n t.toInt x.toInt m2.toInt := by
  obtain ⟨h1, h2, h3, h4, h5⟩ := h
  have e : ix.toNatClampNeg = ix.toInt.toNat := rfl
  refine ⟨h1, h2, h3, fun j hj i hi => ?_, fun i hi => ?_⟩
  · rw [pk_un (by omega)]; exact h4 j hj i hi
  · by_cases q : i = m.toInt.toNat
    · rw [show 3 * t.toInt.toNat + i = ix.toNatClampNeg by omega, pk_us, ev, q]
    · rw [pk_un (by omega)]; exact h5 i (by omega)
theorem FkM_s {fr ac sr : CeT} {f : Nat} {n : Int} {t x y m : Int32} (h : FkI fr ac sr f n t.toInt x.toInt m.toInt) (hm : m.toInt = 3) (ey : y = fr x.toNatClampNeg) : FkM fr ac sr f n t.toInt y.toInt := by
  obtain ⟨h1, h2, h3, h4, h5⟩ := h
  have ex : x.toNatClampNeg = x.toInt.toNat := rfl
  refine ⟨h1, by omega, ?_, fun j hj i hi => ?_⟩
  · rw [show (n - t.toInt).toNat = (n - 1 - t.toInt).toNat + 1 by omega]
    show y.toInt.toNat = (fr (anB (paI fr) (n - 1 - t.toInt).toNat f)).toInt.toNat
    rw [← h3, ey, ex]
  · by_cases q : (j : Int) = n - 1 - t.toInt
    · rw [show (n - 1 - (j : Int)).toNat = t.toInt.toNat by omega, show j = (n - 1 - t.toInt).toNat by omega, ← h3]
      exact h5 i (by omega)
    · exact h4 j (by omega) i hi
def FoM (fr ac : CeT) (r : Int) (f : Nat) (sm : Int) (sr : CeT) : Prop := 0 ≤ r ∧ sm = r ∧ anB (paI fr) r.toNat f = 0 ∧ (∀ j : Nat, (j : Int) < r → 0 < anB (paI fr) j f) ∧ ∀ j : Nat, (j : Int) < r → ∀ i : Nat, i < 3 → sr (3 * (r - 1 - (j : Int)).toNat + i) = ac (3 * anB (paI fr) j f + i)
theorem FoM_e {fr ac sr : CeT} {f : Nat} {n z t x sm : Int} (hA : ApM fr f n z) (hz : z ≤ 0) (hF : FkM fr ac sr f n t x) (hx : x ≤ 0) (hs : sm = n) : FoM fr ac n f sm sr := by
  obtain ⟨a1, a2, a3⟩ := hA
  obtain ⟨f1, f2, f3, f4⟩ := hF
  have ht : t = 0 := by
    by_cases q : t = 0
    · exact q
    · have w := a3 (n - t).toNat (by omega)
      omega
  subst ht
  exact ⟨a1, hs, by omega, a3, fun j hj => f4 j (by omega)⟩
/-! the search as it goes -/
def SkM (S : SiT) (N : Int) (F A O L a b d fr ac : CeT) (st : Int32) (m : Nat) (ans sm9 : Int) (sr : CeT) : Prop := ∀ R ok nx sm gl, S R ok nx sm gl → ∀ z, R z F A O L → RpM R N a b d fr ac st (srB ok nx sm gl N m (b0B gl z)) ∧ ((ans = -9 ∧ sm9 = -9 ∧ (srB ok nx sm gl N m (b0B gl z)).2.2.2.2 = -9) ∨ (¬ (srB ok nx sm gl N m (b0B gl z)).2.2.2.2 = -9 ∧ FoM fr ac ans (srB ok nx sm gl N m (b0B gl z)).2.2.2.2.toNat sm9 sr))
theorem SkM_s0 {S : SiT} {N : Int} {F A O L a b d fr ac a2 b2 d2 fr2 ac2 sr sr2 : CeT} {st st2 : Int32} {ans ans2 sm9 sm2 r : Int} {x y : Int32} (h : SkM S N F A O L a b d fr ac st x.toInt.toNat ans sm9 sr) (ha : ans = -9) (h0 : 0 ≤ x.toInt) (hx : x.toInt < st.toInt) (h3 : st.toInt < 300) (ey : y.toInt = x.toInt + 1) (h2 : SsM S N a b d fr ac st a2 b2 d2 fr2 ac2 st2 r (fun ok nx sm gl B => trV ok nx sm gl N x.toInt.toNat B)) (hr : (r = 0 ∧ ans2 = -9 ∧ sm2 = sm9) ∨ (r = 1 ∧ FoM fr2 ac2 ans2 (st2.toInt - 1).toNat sm2 sr2)) : SkM S N F A O L a2 b2 d2 fr2 ac2 st2 y.toInt.toNat ans2 sm2 sr2 := fun R ok nx sm gl hS z hz => by
  obtain ⟨hB, hf⟩ := h R ok nx sm gl hS z hz
  have hf : sm9 = -9 ∧ (srB ok nx sm gl N x.toInt.toNat (b0B gl z)).2.2.2.2 = -9 := by
    rcases hf with q | q
    · exact q.2
    · have := q.2.1; omega
  have w := h2 R ok nx sm gl hS _ hB hf.2
  have h1 := hB.1
  have e : srB ok nx sm gl N y.toInt.toNat (b0B gl z) = trV ok nx sm gl N x.toInt.toNat (srB ok nx sm gl N x.toInt.toNat (b0B gl z)) := by
    rw [show y.toInt.toNat = x.toInt.toNat + 1 by omega]
    show pI (EnB (srB ok nx sm gl N x.toInt.toNat (b0B gl z)) ∨ (srB ok nx sm gl N x.toInt.toNat (b0B gl z)).2.2.2.1 ≤ x.toInt.toNat) (srB ok nx sm gl N x.toInt.toNat (b0B gl z)) (trV ok nx sm gl N x.toInt.toNat (srB ok nx sm gl N x.toInt.toNat (b0B gl z))) = _
    exact pI_n (fun u => u.elim (fun u => u.elim (fun u => u hf.2) (fun u => by omega)) (fun u => by omega))
  rw [e]
  refine ⟨w.1, ?_⟩
  have w1 := w.1.1
  rcases w.2 with ⟨q1, q2⟩ | ⟨q1, q2, q3⟩
  · rcases hr with ⟨_, t2, t3⟩ | ⟨t1, _⟩
    · exact Or.inl ⟨t2, by omega, q2⟩
    · omega
  · rcases hr with ⟨t1, _⟩ | ⟨_, t2⟩
    · omega
    · refine Or.inr ⟨fun u => by rw [q2] at u; omega, ?_⟩
      rw [q2, ← w1]; exact t2
theorem SkM_e {S : SiT} {N : Int} {F A O L a b d fr ac sr : CeT} {st : Int32} {ans sm9 : Int} {x : Int32} {m : Nat} (h : SkM S N F A O L a b d fr ac st x.toInt.toNat ans sm9 sr) (h0 : 0 ≤ x.toInt) (hx : x.toInt.toNat ≤ m) (hn : x.toInt.toNat = m ∨ st.toInt ≤ x.toInt ∨ 300 ≤ st.toInt ∨ ¬ ans = -9) : SkM S N F A O L a b d fr ac st m ans sm9 sr := fun R ok nx sm gl hS z hz => by
  have w := h R ok nx sm gl hS z hz
  have h1 := w.1.1
  rcases hn with q | q
  · rw [← q]; exact w
  · have e : EnB (srB ok nx sm gl N x.toInt.toNat (b0B gl z)) ∨ (srB ok nx sm gl N x.toInt.toNat (b0B gl z)).2.2.2.1 ≤ x.toInt.toNat := by
      rcases q with q | q | q
      · exact Or.inr (by omega)
      · exact Or.inl (Or.inr (by omega))
      · refine Or.inl (Or.inl (fun u => ?_))
        rcases w.2 with t | t
        · exact q t.1
        · exact t.1 u
    rw [srB_m e m hx]; exact w
/-! no door lies anywhere -/
def NdF (pa ko F : CeT) (N : Int) : Prop := ∀ x : Nat, (x : Int) < N → ¬ (F x).toInt = -9 → ¬ zM pa ko N (x : Int) = 2
def NdS (pa ko a : CeT) (N st : Int) : Prop := ∀ k : Nat, (k : Int) < st → NdF pa ko (fun o => a (30 * k + o)) N
theorem NdF_n {pa ko F fo le sa : CeT} {N n p : Int} (h : NdF pa ko F N) (hp : ¬ p = -9) : NoD (zM pa ko N) (gM fo le sa F n p) N := fun x x0 x1 hx => by
  rw [gM_t hp] at hx
  have w := h x.toNat (by omega) hx
  rw [show ((x.toNat : Nat) : Int) = x by omega] at w
  exact w
theorem NdF_of {pa ko F fo le sa : CeT} {N n p : Int} (h : NoD (zM pa ko N) (gM fo le sa F n p) N) (hp : ¬ p = -9) : NdF pa ko F N := fun x hx h9 => h (x : Int) (by omega) hx (by rw [gM_t hp]; exact h9)
theorem NdS_g {pa ko a b F A : CeT} {N st : Int} {s : Nat} (h : NdS pa ko a N st) (hs : (s : Int) < st) (g : GB F A a b s N) : NdF pa ko F N := fun x hx h9 => h s hs x hx (by have w := (g x hx).1; rw [w] at h9; exact h9)
theorem NdS_a {pa ko a a0 b b0 F A : CeT} {N : Int} {st : Int32} {m : Int} (h : NdS pa ko a0 N st.toInt) (h0 : 0 ≤ st.toInt) (hN : N ≤ 30) (hF : NdF pa ko F N) (hR : RW a b a0 b0 F A st.toInt.toNat N) (hm : m = st.toInt + 1) : NdS pa ko a N m := fun k hk x hx h9 => by
  have h9 : ¬ (a (30 * k + x)).toInt = -9 := h9
  by_cases q : (k : Int) = st.toInt
  · rw [show k = st.toInt.toNat by omega, (hR.2 x hx).1] at h9
    exact hF x hx h9
  · rw [(hR.1 (30 * k + x) (Or.inl (by omega))).1] at h9
    exact h k (by omega) x hx h9
theorem iV_z {P : Prop} {a b : Int} (h : iV P a b = 0) (ha : ¬ a = 0) : ¬ P ∧ b = 0 := by
  by_cases q : P
  · rw [iV_y q] at h; exact absurd h ha
  · rw [iV_n q] at h; exact ⟨q, h⟩
/-- what is moved is no door -/
theorem NdF_m {pa ko F A O L F2 A2 O2 L2 : CeT} {N v f : Int} {p x : Int32} {H : Int → Prop} (h : NdF pa ko F N) (ha : AcR v F A O L F2 A2 O2 L2 (sbI v p x) x f H) (hp : ¬ zM pa ko N p.toInt = 2) (h1 : v = 1 → ¬ zM pa ko N x.toInt = 2) (h2 : v = 2 ∨ v = 3 ∨ v = 4 ∨ v = 9 → fMn N F x.toInt = 2) (p0 : 0 ≤ p.toInt) (x0 : 1 ≤ v ∧ v ≤ 10 → 0 ≤ x.toInt ∧ x.toInt < N) (hv : 0 ≤ v) : NdF pa ko F2 N := by
  have same : F2 = F → NdF pa ko F2 N := fun e => by rw [e]; exact h
  rcases ha with ⟨q, ⟨f9, h9, _, _, e, _⟩, _⟩ | ⟨_, e, _⟩ | ⟨_, e, _⟩ | ⟨_, e, _⟩
  · intro y hy hn
    rw [e] at hn
    by_cases g : y = (sbI v p x).toNatClampNeg
    · have es : (sbI v p x).toNatClampNeg = (sbI v p x).toInt.toNat := rfl
      by_cases gp : v = 0 ∨ 10 ≤ v
      · have e1 : sbI v p x = p := if_pos gp
        rw [e1] at g es
        rw [show (y : Int) = p.toInt by omega]; exact hp
      · have e1 : sbI v p x = x := if_neg gp
        rw [e1] at g es
        have xr := x0 (by omega)
        rw [show (y : Int) = x.toInt by omega]
        by_cases g1 : v = 1
        · exact h1 g1
        · have w := h2 (by omega)
          rw [fMn_i xr] at w
          have u := h x.toInt.toNat (by omega) (by omega)
          rw [show ((x.toInt.toNat : Nat) : Int) = x.toInt by omega] at u
          exact u
    · rw [pk_un g] at hn
      exact h y hy hn
  · exact same e
  · exact same e
  · exact same e
/-! a look over rows that are alike -/
theorem Cv_o {Z : Int → Int} {op gl op2 : Int → Prop} {l : Prop} (h : ∀ x, Z x = 3 → (op x ↔ op2 x)) : Cv Z op gl l = Cv Z op2 gl l := by
  funext x
  apply propext
  unfold Cv
  constructor
  · rintro ⟨a, b, c⟩
    exact ⟨a, fun w => b ((h x a).mpr w), c⟩
  · rintro ⟨a, b, c⟩
    exact ⟨a, fun w => b ((h x a).mp w), c⟩
theorem shl_o {Z f : Int → Int} {op gl op2 : Int → Prop} {l : Prop} {p : Int} (h : ∀ x, Z x = 3 → (op x ↔ op2 x)) : shl Z f op gl l p = shl Z f op2 gl l p := by
  have e : StpC Z op gl l = StpC Z op2 gl l := by
    funext x
    unfold StpC
    rw [Cv_o h]
  unfold shl
  rw [e]
theorem V1_o {Z f : Int → Int} {op gl op2 : Int → Prop} {sd : Int → Int → Prop} {l : Prop} {p o : Int} (h : ∀ x, Z x = 3 → (op x ↔ op2 x)) : V1 Z f op gl sd l p o = V1 Z f op2 gl sd l p o := by
  unfold V1 Vw
  rw [shl_o (f := f) (p := p) (l := l) h, Cv_o (l := l) h]
theorem BrM_o {Z f : Int → Int} {op gl lt op2 : Int → Prop} {sd : Int → Int → Prop} {p N : Int} (h : ∀ x, Z x = 3 → (op x ↔ op2 x)) : BrM Z f op gl lt sd p N = BrM Z f op2 gl lt sd p N := by
  have e : (fun o => V1 Z f op gl sd ((1 : Int) ≤ 0) p o) = fun o => V1 Z f op2 gl sd ((1 : Int) ≤ 0) p o := funext (fun o => V1_o h)
  have e2 : ∀ o, V1 Z f op gl sd ((1 : Int) ≤ 0) p o = V1 Z f op2 gl sd ((1 : Int) ≤ 0) p o := fun o => V1_o h
  unfold BrM
  rw [shl_o (f := f) (p := p) (l := (1 : Int) ≤ 0) h]
  simp only [e2]
theorem LkR_o {Z f fm : Int → Int} {op gl lt op2 : Int → Prop} {sd : Int → Int → Prop} {p N : Int} {sn rc : Nat → Int32} {br : Int32} (h : LkR Z f fm op gl lt sd p N sn rc br) (ho : ∀ x, Z x = 3 → (op x ↔ op2 x)) : LkR Z f fm op2 gl lt sd p N sn rc br := by
  have eS : ∀ o, SnP Z f fm op2 gl lt sd p N o = SnP Z f fm op gl lt sd p N o := fun o => by
    unfold SnP
    rw [BrM_o (f := f) ho, V1_o (f := f) ho]
  have eR : ∀ o, RcP Z f fm op2 gl lt sd p N o = RcP Z f fm op gl lt sd p N o := fun o => by
    unfold RcP
    rw [eS, V1_o (f := f) ho]
  refine ⟨?_, fun o ho2 => ?_⟩
  · rw [← BrM_o (f := f) ho]; exact h.1
  · rw [eS, eR]; exact h.2 o ho2
theorem fMn_x {N : Int} {F F2 : CeT} (e : ∀ o : Nat, (o : Int) < N → F2 o = F o) : fMn N F2 = fMn N F := by
  funext x
  unfold fMn
  by_cases q : 0 ≤ x ∧ x < N
  · rw [if_pos q, if_pos q, e x.toNat (by omega)]
  · rw [if_neg q, if_neg q]
theorem LkM_x {pa ko F A O F2 A2 O2 : CeT} {N p : Int} {gl lt : Int → Prop} {sd : Int → Int → Prop} {sn rc : CeT} {br : Int32} (h : LkR (zM pa ko N) (nF N F A) (fMn N F) (bM O) gl lt sd p N sn rc br) (e : ∀ o : Nat, (o : Int) < N → F2 o = F o ∧ A2 o = A o) (eo : ∀ o : Nat, (o : Int) < N → O2 o = O o) : LkR (zM pa ko N) (nF N F2 A2) (fMn N F2) (bM O2) gl lt sd p N sn rc br := by
  rw [nF_ext e, fMn_x (fun o ho => (e o ho).1)]
  refine LkR_o h (fun x hx => ?_)
  have xr : 0 ≤ x ∧ x < N := by
    by_cases q : 0 ≤ x ∧ x < N
    · exact q
    · unfold zM at hx; rw [if_neg q] at hx; omega
  unfold bM
  rw [eo x.toNat (by omega)]
theorem GS_e {O L O2 L2 w w2 : CeT} {T : Nat} {N : Int} (h : GS O L w T N) (h2 : GS O2 L2 w2 T N) (e : ∀ j : Nat, (j : Int) < N → w2 (30 * T + j) = w (30 * T + j)) : ∀ j : Nat, (j : Int) < N → O2 j = O j ∧ L2 j = L j := fun j hj => by
  have a := h j hj
  have b := h2 j hj
  rw [e j hj] at b
  exact ⟨Int32.toInt_inj.mp (by omega), Int32.toInt_inj.mp (by omega)⟩
theorem TrA_i {N v x y : Int} (hN : 0 ≤ N) (hv : 0 ≤ v ∧ v ≤ 11) (h0 : v = 0 → 0 ≤ x ∧ x ≤ 9) (h1 : 1 ≤ v ∧ v ≤ 10 → 0 ≤ x ∧ x < N) (h2 : v = 11 → x = 0) (h3 : v = 3 ∨ v = 4 ∨ v = 7 ∨ v = 8 → 0 ≤ y ∧ y < N) (h4 : ¬ (v = 3 ∨ v = 4 ∨ v = 7 ∨ v = 8) → y = 0) : TrA N v x y := by
  have ex : 0 ≤ x ∧ x < (nX N v : Int) := by
    by_cases q0 : v = 0
    · rw [nX_0 q0]; have := h0 q0; omega
    · by_cases q1 : v < 11
      · rw [nX_1 q0 q1]; have := h1 (by omega); omega
      · rw [nX_2 (by omega)]; have := h2 (by omega); omega
  have ey : 0 ≤ y ∧ y < (nY N v : Int) := by
    unfold nY
    by_cases q : hyB v
    · rw [pI_y q]; have := h3 q; omega
    · rw [pI_n q]; have := h4 q; omega
  exact ⟨hv.1, hv.2, ex.1, ex.2, ey.1, ey.2⟩

def WxM (pa ste ko sz q9 q10 q11 q12 q13 : CeT) (N n p v9 x9 y9 : Int) (F A O L : CeT) (r : Int32) : Prop := ∃ (lt gls bx rm dd sn rc : CeT) (br : Int32), (LkK pa ko N lt gls bx rm dd (fun x : Int => SgM q9 q10 q11 q12 q13 n x 2 (sfV pa ko ste (kS pa ko x) 2 x) 1) (fun x : Int => SgM q9 q10 q11 q12 q13 n x 5 (sfV pa ko ste (kS pa ko x) 5 x) 1) N) ∧ (LkR (zM pa ko N) (nF N F A) (fMn N F) (bM O) (bM gls) (bM lt) (sdM (zM pa ko N) q9 q10 q11 q13 n) p N sn rc br) ∧ (H3 ((v9 = 0 ∧ ∃ ld dr bw im : Int, FeM pa ko q9 q10 q11 q12 q13 n (A p.toNat).toInt x9 ld dr bw im ∧ r.toInt = goV (ByR (zM pa ko N) (nF N F A) (fMn N F) p) ld dr (bM O)) ∨ (¬ v9 = 0 ∧ r.toInt = wyV v9 (takeV ((sn x9.toNat).toInt = 1) (x9 = p ∨ ChB 30 (nF N F A) ((nF N F A) p) x9) (Hd (nF N F A) (fMn N F) p x9) (¬ (((zM pa ko N) x9 = 1 ∨ 3 ≤ (zM pa ko N) x9) ∧ ¬ (zM pa ko N) x9 = 5) ∨ SgM q9 q10 q11 q12 q13 n x9 3 (sfV pa ko ste (kS pa ko x9) 3 x9) 1 ∨ (fMn N F) x9 = 4) ((rc x9.toNat).toInt = 1) (AnB (zM pa ko N) (nF N F A) p 30 ((nF N F A) x9)) (100 < ((wtB (zM pa ko N) sz (lsG q9 q10 q11 q13 F A n p) N.toNat 31) x9.toNat + sumI (fun x => if lsM F A 2 p x = true then (wtB (zM pa ko N) sz (lsG q9 q10 q11 q13 F A n p) N.toNat 31) x else 0) N.toNat).toInt)) (iV (¬ (Hd (nF N F A) (fMn N F) p x9)) 11 0) (iV (¬ (Hd (nF N F A) (fMn N F) p x9)) 11 (putV ((sn y9.toNat).toInt = 1) (((1 : Int) ≤ 1 ∧ (zM pa ko N) y9 = 3) ∨ (¬ (1 : Int) ≤ 1 ∧ (zM pa ko N) y9 = 4)) (y9 = x9 ∨ ChB 30 (nF N F A) ((nF N F A) y9) x9) ((1 : Int) ≤ 1 ∧ ¬ (bM O) y9) ((rc y9.toNat).toInt = 1) (8 ≤ ((cnt (lsM F A (if (1 : Int) ≤ 1 then 0 else 1) y9) N.toNat : Nat) : Int)))) (iV (¬ (Hd (nF N F A) (fMn N F) p x9)) 11 (putV ((sn y9.toNat).toInt = 1) (((1 : Int) ≤ 0 ∧ (zM pa ko N) y9 = 3) ∨ (¬ (1 : Int) ≤ 0 ∧ (zM pa ko N) y9 = 4)) (y9 = x9 ∨ ChB 30 (nF N F A) ((nF N F A) y9) x9) ((1 : Int) ≤ 0 ∧ ¬ (bM O) y9) ((rc y9.toNat).toInt = 1) (8 ≤ ((cnt (lsM F A (if (1 : Int) ≤ 0 then 0 else 1) y9) N.toNat : Nat) : Int)))) (shutV v9 ((sn x9.toNat).toInt = 1) ((zM pa ko N) x9 = 2 ∨ (zM pa ko N) x9 = 3) ((bM O) x9) ((bM L) x9) ((rc x9.toNat).toInt = 1) (if 7 ≤ v9 then keyV (Hd (nF N F A) (fMn N F) p y9) ((kyM q9 q10 q11 q13 n x9) = y9) else 0)) (wearV (Hd (nF N F A) (fMn N F) p x9) (SgM q9 q10 q11 q12 q13 n x9 4 (sfV pa ko ste (kS pa ko x9) 4 x9) 1)) (enterV ((sn x9.toNat).toInt = 1) ((zM pa ko N) x9 = 3 ∨ (zM pa ko N) x9 = 4) (ChB 30 (nF N F A) ((nF N F A) x9) p) ((zM pa ko N) x9 = 3 ∧ ¬ (bM O) x9) ((rc x9.toNat).toInt = 1) ((nF N F A) p = x9)) (leaveV (ByR (zM pa ko N) (nF N F A) (fMn N F) p) ((fMn N F) p = 0 ∧ (zM pa ko N) ((nF N F A) p) = 3 ∧ ¬ (bM O) ((nF N F A) p)) ((fMn N F) ((nF N F A) p) = 0 ∨ (fMn N F) ((nF N F A) p) = 1)))))
theorem WxM_i {pa ste ko sz q9 q10 q11 q12 q13 F A O L : CeT} {N n p v9 x9 y9 : Int} {r : Int32} {lt gls bx rm dd sn rc : CeT} {br : Int32} (h1 : LkK pa ko N lt gls bx rm dd (fun x : Int => SgM q9 q10 q11 q12 q13 n x 2 (sfV pa ko ste (kS pa ko x) 2 x) 1) (fun x : Int => SgM q9 q10 q11 q12 q13 n x 5 (sfV pa ko ste (kS pa ko x) 5 x) 1) N) (h2 : LkR (zM pa ko N) (nF N F A) (fMn N F) (bM O) (bM gls) (bM lt) (sdM (zM pa ko N) q9 q10 q11 q13 n) p N sn rc br) (h3 : H3 ((v9 = 0 ∧ ∃ ld dr bw im : Int, FeM pa ko q9 q10 q11 q12 q13 n (A p.toNat).toInt x9 ld dr bw im ∧ r.toInt = goV (ByR (zM pa ko N) (nF N F A) (fMn N F) p) ld dr (bM O)) ∨ (¬ v9 = 0 ∧ r.toInt = wyV v9 (takeV ((sn x9.toNat).toInt = 1) (x9 = p ∨ ChB 30 (nF N F A) ((nF N F A) p) x9) (Hd (nF N F A) (fMn N F) p x9) (¬ (((zM pa ko N) x9 = 1 ∨ 3 ≤ (zM pa ko N) x9) ∧ ¬ (zM pa ko N) x9 = 5) ∨ SgM q9 q10 q11 q12 q13 n x9 3 (sfV pa ko ste (kS pa ko x9) 3 x9) 1 ∨ (fMn N F) x9 = 4) ((rc x9.toNat).toInt = 1) (AnB (zM pa ko N) (nF N F A) p 30 ((nF N F A) x9)) (100 < ((wtB (zM pa ko N) sz (lsG q9 q10 q11 q13 F A n p) N.toNat 31) x9.toNat + sumI (fun x => if lsM F A 2 p x = true then (wtB (zM pa ko N) sz (lsG q9 q10 q11 q13 F A n p) N.toNat 31) x else 0) N.toNat).toInt)) (iV (¬ (Hd (nF N F A) (fMn N F) p x9)) 11 0) (iV (¬ (Hd (nF N F A) (fMn N F) p x9)) 11 (putV ((sn y9.toNat).toInt = 1) (((1 : Int) ≤ 1 ∧ (zM pa ko N) y9 = 3) ∨ (¬ (1 : Int) ≤ 1 ∧ (zM pa ko N) y9 = 4)) (y9 = x9 ∨ ChB 30 (nF N F A) ((nF N F A) y9) x9) ((1 : Int) ≤ 1 ∧ ¬ (bM O) y9) ((rc y9.toNat).toInt = 1) (8 ≤ ((cnt (lsM F A (if (1 : Int) ≤ 1 then 0 else 1) y9) N.toNat : Nat) : Int)))) (iV (¬ (Hd (nF N F A) (fMn N F) p x9)) 11 (putV ((sn y9.toNat).toInt = 1) (((1 : Int) ≤ 0 ∧ (zM pa ko N) y9 = 3) ∨ (¬ (1 : Int) ≤ 0 ∧ (zM pa ko N) y9 = 4)) (y9 = x9 ∨ ChB 30 (nF N F A) ((nF N F A) y9) x9) ((1 : Int) ≤ 0 ∧ ¬ (bM O) y9) ((rc y9.toNat).toInt = 1) (8 ≤ ((cnt (lsM F A (if (1 : Int) ≤ 0 then 0 else 1) y9) N.toNat : Nat) : Int)))) (shutV v9 ((sn x9.toNat).toInt = 1) ((zM pa ko N) x9 = 2 ∨ (zM pa ko N) x9 = 3) ((bM O) x9) ((bM L) x9) ((rc x9.toNat).toInt = 1) (if 7 ≤ v9 then keyV (Hd (nF N F A) (fMn N F) p y9) ((kyM q9 q10 q11 q13 n x9) = y9) else 0)) (wearV (Hd (nF N F A) (fMn N F) p x9) (SgM q9 q10 q11 q12 q13 n x9 4 (sfV pa ko ste (kS pa ko x9) 4 x9) 1)) (enterV ((sn x9.toNat).toInt = 1) ((zM pa ko N) x9 = 3 ∨ (zM pa ko N) x9 = 4) (ChB 30 (nF N F A) ((nF N F A) x9) p) ((zM pa ko N) x9 = 3 ∧ ¬ (bM O) x9) ((rc x9.toNat).toInt = 1) ((nF N F A) p = x9)) (leaveV (ByR (zM pa ko N) (nF N F A) (fMn N F) p) ((fMn N F) p = 0 ∧ (zM pa ko N) ((nF N F A) p) = 3 ∧ ¬ (bM O) ((nF N F A) p)) ((fMn N F) ((nF N F A) p) = 0 ∨ (fMn N F) ((nF N F A) p) = 1))))) : WxM pa ste ko sz q9 q10 q11 q12 q13 N n p v9 x9 y9 F A O L r := ⟨lt, gls, bx, rm, dd, sn, rc, br, h1, h2, h3⟩
def AxM (pa ko q9 q10 q11 q12 q13 : CeT) (N n p v9 x9 y9 : Int) (F A O L F2 A2 O2 L2 : CeT) : Prop := ∃ (pi xi : Int32), pi.toInt = p ∧ xi.toInt = x9 ∧ (AcR v9 F A O L F2 A2 O2 L2 (sbI v9 pi xi) xi (plF v9 (zM pa ko N) (fMn N F) (nF N F A) p x9) (fun h : Int => (v9 = 0 ∧ ∃ dr bw im : Int, FeM pa ko q9 q10 q11 q12 q13 n (A p.toNat).toInt x9 h dr bw im) ∨ (¬ v9 = 0 ∧ h = plH v9 (nF N F A) p 0 x9 y9)))
theorem AxM_i {pa ste ko sz q9 q10 q11 q12 q13 F A O L F2 A2 O2 L2 : CeT} {N n v9 y9 : Int} {pi xi : Int32} (h : AcR v9 F A O L F2 A2 O2 L2 (sbI v9 pi xi) xi (plF v9 (zM pa ko N) (fMn N F) (nF N F A) pi.toInt xi.toInt) (fun h : Int => (v9 = 0 ∧ ∃ dr bw im : Int, FeM pa ko q9 q10 q11 q12 q13 n (A pi.toInt.toNat).toInt xi.toInt h dr bw im) ∨ (¬ v9 = 0 ∧ h = plH v9 (nF N F A) pi.toInt 0 xi.toInt y9))) : AxM pa ko q9 q10 q11 q12 q13 N n pi.toInt v9 xi.toInt y9 F A O L F2 A2 O2 L2 := ⟨pi, xi, rfl, rfl, h⟩
