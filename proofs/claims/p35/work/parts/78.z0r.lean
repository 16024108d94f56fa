/-! the search by its steps -/
theorem RpX_t {t t2 kp pa de : Nat → Int32} {st fd : Int32} {B : Acc (Nat → Int32)} (h : RpX t kp pa de st fd B) (e : ∀ o : Nat, 30 ≤ o → t2 o = t o) : RpX t2 kp pa de st fd B := ⟨h.1, h.2.1, fun k hk => ⟨by
  rw [(h.2.2 k hk).1]
  funext o
  unfold rwX
  by_cases q : o < 30
  · rw [if_pos q, if_pos q]
  · rw [if_neg q, if_neg q, e o (by omega)], (h.2.2 k hk).2⟩⟩
theorem EnB_X {t kp pa de : Nat → Int32} {st fd : Int32} {B : Acc (Nat → Int32)} (h : RpX t kp pa de st fd B) : EnB B ↔ (¬ fd.toInt = -9 ∨ 300 ≤ st.toInt) := by
  unfold EnB
  have h1 := h.1
  rw [h.2.1]
  constructor
  · rintro (w | w)
    · exact Or.inl w
    · exact Or.inr (by omega)
  · rintro (w | w)
    · exact Or.inl w
    · exact Or.inr (by omega)
theorem stB_t {σ : Type} {ok : σ → Int → Int → Int → Prop} {nx : σ → Int → Int → Int → σ} {sm : σ → σ → Prop} {gl : σ → Prop} {s : Nat} {v x y : Int} {B : Acc σ} {z : σ} (h : ¬ EnB B) (ho : ok (B.1 s) v x y) (hz : nx (B.1 s) v x y = z) : stB ok nx sm gl s v x y B = pI (SmB sm B z) B (kpB gl z (s : Int) (v, x, y) B) := by
  subst hz
  by_cases q : SmB sm B (nx (B.1 s) v x y)
  · rw [pI_y q]; exact pI_y (Or.inr (Or.inr q))
  · rw [pI_n q]; exact pI_n (fun w => w.elim h (fun w => w.elim (fun w => w ho) q))
/-- one step of the class -/
def StX (t kp pa de : Nat → Int32) (st fd : Int32) (kp2 pa2 de2 : Nat → Int32) (st2 fd2 : Int32) (N : Int) (gl : (Nat → Int32) → Prop) (z : Nat → Int32) (s : Int) (d : Int × Int × Int) : Prop := ∀ B : Acc (Nat → Int32), RpX t kp pa de st fd B → RpX t kp2 pa2 de2 st2 fd2 (pI (SmB (smC N) B z) B (kpB gl z s d B))
/-- some steps of the class -/
def SsX (t kp pa de : Nat → Int32) (st fd : Int32) (kp2 pa2 de2 : Nat → Int32) (st2 fd2 : Int32) (f : Acc (Nat → Int32) → Acc (Nat → Int32)) : Prop := ∀ B : Acc (Nat → Int32), RpX t kp pa de st fd B → RpX t kp2 pa2 de2 st2 fd2 (f B)
theorem SsX_0 {t kp pa de : Nat → Int32} {st fd : Int32} {f : Acc (Nat → Int32) → Nat → Acc (Nat → Int32)} {x : Int32} (hx : x.toInt = 0) : SsX t kp pa de st fd kp pa de st fd (fY f x.toInt.toNat) := fun B h => by rw [hx]; exact h
/-- a fold's next, where nothing changed -/
theorem SsX_n {t kp pa de kp2 pa2 de2 : Nat → Int32} {st fd st2 fd2 : Int32} {f : Acc (Nat → Int32) → Nat → Acc (Nat → Int32)} {x y : Int32} (h : SsX t kp pa de st fd kp2 pa2 de2 st2 fd2 (fY f x.toInt.toNat)) (h0 : 0 ≤ x.toInt) (ey : y.toInt = x.toInt + 1) (e : ∀ B, RpX t kp2 pa2 de2 st2 fd2 B → f B x.toInt.toNat = B) : SsX t kp pa de st fd kp2 pa2 de2 st2 fd2 (fY f y.toInt.toNat) := fun B hB => by
  have w := h B hB
  rw [fY_s h0 ey, e _ w]; exact w
/-- a fold's next, by a step -/
theorem SsX_s {t kp pa de kp2 pa2 de2 kp3 pa3 de3 : Nat → Int32} {st fd st2 fd2 st3 fd3 : Int32} {f : Acc (Nat → Int32) → Nat → Acc (Nat → Int32)} {x y : Int32} (h : SsX t kp pa de st fd kp2 pa2 de2 st2 fd2 (fY f x.toInt.toNat)) (h0 : 0 ≤ x.toInt) (ey : y.toInt = x.toInt + 1) (e : SsX t kp2 pa2 de2 st2 fd2 kp3 pa3 de3 st3 fd3 (fun B => f B x.toInt.toNat)) : SsX t kp pa de st fd kp3 pa3 de3 st3 fd3 (fY f y.toInt.toNat) := fun B hB => by
  rw [fY_s h0 ey]; exact e _ (h B hB)
/-- a fold's end -/
theorem SsX_e {t kp pa de kp2 pa2 de2 : Nat → Int32} {st fd st2 fd2 : Int32} {f : Acc (Nat → Int32) → Nat → Acc (Nat → Int32)} {x : Int32} {n : Nat} (h : SsX t kp pa de st fd kp2 pa2 de2 st2 fd2 (fY f x.toInt.toNat)) (he : ∀ B k, EnB B → f B k = B) (hx : x.toInt.toNat ≤ n) (hn : x.toInt.toNat = n ∨ ¬ fd2.toInt = -9 ∨ 300 ≤ st2.toInt) : SsX t kp pa de st fd kp2 pa2 de2 st2 fd2 (fY f n) := fun B hB => by
  have w := h B hB
  rcases hn with q | q
  · rw [← q]; exact w
  · rw [fY_k he ((EnB_X w).mpr q) n hx]; exact w
/-- the step's row is the scene -/
theorem RpX_r {t kp pa de ce : Nat → Int32} {st fd : Int32} {B : Acc (Nat → Int32)} {s : Nat} (h : RpX t kp pa de st fd B) (hs : (s : Int) < st.toInt) (hr : ∀ o : Nat, o < 30 → kp (30 * s + o) = ce o) (ht : ∀ o : Nat, 30 ≤ o → ce o = t o) : B.1 s = ce := by
  have h1 := h.1
  rw [(h.2.2 s (by omega)).1]
  funext o
  unfold rwX
  by_cases q : o < 30
  · rw [if_pos q]; exact hr o q
  · rw [if_neg q, ht o (by omega)]
theorem StX_s {t kp pa de kp2 pa2 de2 ce : Nat → Int32} {st fd st2 fd2 : Int32} {N : Int} {gl : (Nat → Int32) → Prop} {ok : (Nat → Int32) → Int → Int → Int → Prop} {nx : (Nat → Int32) → Int → Int → Int → Nat → Int32} {s : Nat} {v x y : Int} (h : StX t kp pa de st fd kp2 pa2 de2 st2 fd2 N gl (nx ce v x y) (s : Int) (v, x, y)) (hs : (s : Int) < st.toInt) (hr : ∀ o : Nat, o < 30 → kp (30 * s + o) = ce o) (ht : ∀ o : Nat, 30 ≤ o → ce o = t o) (hn : ¬ (¬ fd.toInt = -9 ∨ 300 ≤ st.toInt)) (ho : ok ce v x y) : SsX t kp pa de st fd kp2 pa2 de2 st2 fd2 (fun B => stB ok nx (smC N) gl s v x y B) := fun B hB => by
  have e := RpX_r hB hs hr ht
  show RpX t kp2 pa2 de2 st2 fd2 (stB ok nx (smC N) gl s v x y B)
  rw [stB_t (z := nx ce v x y) (fun w => hn ((EnB_X hB).mp w)) (by rw [e]; exact ho) (by rw [e])]
  exact h B hB
theorem kpB_0 {σ : Type} {gl : σ → Prop} {z : σ} : kpB gl z (-9) (0, 0, 0) ((fun _ => z, fun _ => -9, fun _ => (0, 0, 0), 0, -9) : Acc σ) = b0B gl z := by
  unfold kpB b0B
  refine Prod.ext (funext (fun k => ?_)) (Prod.ext (funext (fun k => ?_)) (Prod.ext (funext (fun k => ?_)) rfl))
  · show (if k = 0 then z else z) = z
    split <;> rfl
  · show (if k = 0 then (-9 : Int) else -9) = -9
    split <;> rfl
  · show (if k = 0 then ((0, 0, 0) : Int × Int × Int) else (0, 0, 0)) = (0, 0, 0)
    split <;> rfl
theorem RpX_0 {t kp pa de : Nat → Int32} {st fd : Int32} {z : Nat → Int32} (hs : st.toInt = 0) (hf : fd.toInt = -9) : RpX t kp pa de st fd ((fun _ => z, fun _ => -9, fun _ => (0, 0, 0), 0, -9) : Acc (Nat → Int32)) := ⟨hs, hf, fun k hk => absurd hk (Nat.not_lt_zero _)⟩
theorem va_cl {a b : Nat → Int32} {sp dp nn : Int32} {s : Int} {j : Nat} (e : dp.toInt = s * 30) (h0 : 0 ≤ s) (h : (j : Int) < 30 * s) : va_cpy a b sp.toNatClampNeg dp.toNatClampNeg nn.toNatClampNeg j = b j := by
  have c2 : dp.toNatClampNeg = dp.toInt.toNat := rfl
  unfold va_cpy
  rw [if_neg (by omega)]
theorem SsX_t {t t2 kp pa de kp2 pa2 de2 : Nat → Int32} {st fd st2 fd2 : Int32} {f : Acc (Nat → Int32) → Acc (Nat → Int32)} (h : SsX t kp pa de st fd kp2 pa2 de2 st2 fd2 f) (e : ∀ o : Nat, 30 ≤ o → t2 o = t o) : SsX t2 kp pa de st fd kp2 pa2 de2 st2 fd2 f := fun B hB => RpX_t (h B (RpX_t hB (fun o ho => (e o ho).symm))) e
theorem SsG_0 {t kp pa de kp2 pa2 de2 : Nat → Int32} {st fd st2 fd2 : Int32} {g : Acc (Nat → Int32) → Acc (Nat → Int32)} {f : Acc (Nat → Int32) → Nat → Acc (Nat → Int32)} {x : Int32} (h : SsX t kp pa de st fd kp2 pa2 de2 st2 fd2 g) (hx : x.toInt = 0) : SsX t kp pa de st fd kp2 pa2 de2 st2 fd2 (fun B => fY f x.toInt.toNat (g B)) := fun B hB => by rw [hx]; exact h B hB
theorem SsG_n {t kp pa de kp2 pa2 de2 : Nat → Int32} {st fd st2 fd2 : Int32} {g : Acc (Nat → Int32) → Acc (Nat → Int32)} {f : Acc (Nat → Int32) → Nat → Acc (Nat → Int32)} {x y : Int32} (h : SsX t kp pa de st fd kp2 pa2 de2 st2 fd2 (fun B => fY f x.toInt.toNat (g B))) (h0 : 0 ≤ x.toInt) (ey : y.toInt = x.toInt + 1) (e : ∀ B, RpX t kp2 pa2 de2 st2 fd2 B → f B x.toInt.toNat = B) : SsX t kp pa de st fd kp2 pa2 de2 st2 fd2 (fun B => fY f y.toInt.toNat (g B)) := fun B hB => by
  have w := h B hB
  show RpX t kp2 pa2 de2 st2 fd2 (fY f y.toInt.toNat (g B))
  rw [fY_s h0 ey, e _ w]; exact w
theorem SsG_s {t kp pa de kp2 pa2 de2 kp3 pa3 de3 : Nat → Int32} {st fd st2 fd2 st3 fd3 : Int32} {g : Acc (Nat → Int32) → Acc (Nat → Int32)} {f : Acc (Nat → Int32) → Nat → Acc (Nat → Int32)} {x y : Int32} (h : SsX t kp pa de st fd kp2 pa2 de2 st2 fd2 (fun B => fY f x.toInt.toNat (g B))) (h0 : 0 ≤ x.toInt) (ey : y.toInt = x.toInt + 1) (e : SsX t kp2 pa2 de2 st2 fd2 kp3 pa3 de3 st3 fd3 (fun B => f B x.toInt.toNat)) : SsX t kp pa de st fd kp3 pa3 de3 st3 fd3 (fun B => fY f y.toInt.toNat (g B)) := fun B hB => by
  show RpX t kp3 pa3 de3 st3 fd3 (fY f y.toInt.toNat (g B))
  rw [fY_s h0 ey]; exact e _ (h B hB)
theorem SsG_e {t kp pa de kp2 pa2 de2 : Nat → Int32} {st fd st2 fd2 : Int32} {g : Acc (Nat → Int32) → Acc (Nat → Int32)} {f : Acc (Nat → Int32) → Nat → Acc (Nat → Int32)} {x : Int32} {n : Nat} (h : SsX t kp pa de st fd kp2 pa2 de2 st2 fd2 (fun B => fY f x.toInt.toNat (g B))) (he : ∀ B k, EnB B → f B k = B) (hx : x.toInt.toNat ≤ n) (hn : x.toInt.toNat = n ∨ ¬ fd2.toInt = -9 ∨ 300 ≤ st2.toInt) : SsX t kp pa de st fd kp2 pa2 de2 st2 fd2 (fun B => fY f n (g B)) := fun B hB => by
  have w := h B hB
  show RpX t kp2 pa2 de2 st2 fd2 (fY f n (g B))
  rcases hn with q | q
  · rw [← q]; exact w
  · rw [fY_k he ((EnB_X w).mpr q) n hx]; exact w
/-- the next verb -/
theorem SsG_v {t kp pa de kp2 pa2 de2 : Nat → Int32} {st fd st2 fd2 : Int32} {F : Acc (Nat → Int32) → Nat → Acc (Nat → Int32)} {f : Acc (Nat → Int32) → Nat → Acc (Nat → Int32)} {x y : Int32} {n : Nat} (h : SsX t kp pa de st fd kp2 pa2 de2 st2 fd2 (fun B => fY f n (fY F x.toInt.toNat B))) (h0 : 0 ≤ x.toInt) (ey : y.toInt = x.toInt + 1) (e : ∀ B, F B x.toInt.toNat = fY f n B) : SsX t kp pa de st fd kp2 pa2 de2 st2 fd2 (fY F y.toInt.toNat) := fun B hB => by
  rw [fY_s h0 ey, e]; exact h B hB
theorem TaI_c {ce kp : Nat → Int32} {st N : Int} {s : Nat} {sp dp nn : Int32} (h : TaI ce kp st N) (hs : (s : Int) < st) (es : sp.toInt = 30 * (s : Int)) (ed : dp.toInt = 0) (en : nn.toInt = 30) : TaI (va_cpy kp ce sp.toNatClampNeg dp.toNatClampNeg nn.toNatClampNeg) kp st N := fun k hk o ho h30 => by
  rw [rwX_c (t := ce) (k := s) (fun _ _ => rfl) es ed en, h k hk o ho h30]
  unfold rwX
  rw [if_pos h30, h s hs o ho h30]
theorem rwX_l {t kp : Nat → Int32} {k o : Nat} (h : o < 30) : rwX t kp k o = kp (30 * k + o) := if_pos h
theorem rwX_g {t kp : Nat → Int32} {k o : Nat} (h : 30 ≤ o) : rwX t kp k o = t o := if_neg (by omega)
theorem nX_0 {N v : Int} (h : v = 0) : nX N v = 10 := if_pos h
theorem nX_1 {N v : Int} (h0 : ¬ v = 0) (h : v < 11) : nX N v = N.toNat := by unfold nX; rw [if_neg h0, if_pos h]
theorem nX_2 {N v : Int} (h : 11 ≤ v) : nX N v = 1 := by unfold nX; rw [if_neg (by omega), if_neg (by omega)]

/-! the way back from a state -/
def anB (fr : Nat → Int) : Nat → Nat → Nat
  | 0, s => s
  | j + 1, s => (fr (anB fr j s)).toNat
def FrB {σ : Type} (B : Acc σ) : Prop := (∀ k : Nat, 0 < k → k < B.2.2.2.1 → 0 ≤ B.2.1 k ∧ B.2.1 k < (k : Int)) ∧ (B.2.2.2.2 = -9 ∨ (0 ≤ B.2.2.2.2 ∧ B.2.2.2.2 < (B.2.2.2.1 : Int)))
theorem stB_f {σ : Type} {ok : σ → Int → Int → Int → Prop} {nx : σ → Int → Int → Int → σ} {sm : σ → σ → Prop} {gl : σ → Prop} {s : Nat} {v x y : Int} {B : Acc σ} (h : FrB B) (hs : s < B.2.2.2.1) : FrB (stB ok nx sm gl s v x y B) := by
  by_cases q : EnB B ∨ ¬ ok (B.1 s) v x y ∨ SmB sm B (nx (B.1 s) v x y)
  · rw [show stB ok nx sm gl s v x y B = B from pI_y q]; exact h
  · rw [show stB ok nx sm gl s v x y B = kpB gl (nx (B.1 s) v x y) (s : Int) (v, x, y) B from pI_n q]
    refine ⟨fun k h0 hk => ?_, ?_⟩
    · have hk : k < B.2.2.2.1 + 1 := hk
      show 0 ≤ (if k = B.2.2.2.1 then (s : Int) else B.2.1 k) ∧ (if k = B.2.2.2.1 then (s : Int) else B.2.1 k) < (k : Int)
      by_cases g : k = B.2.2.2.1
      · rw [if_pos g]; omega
      · rw [if_neg g]; exact h.1 k h0 (by omega)
    · show pI (gl _) (B.2.2.2.1 : Int) B.2.2.2.2 = -9 ∨ (0 ≤ pI (gl _) (B.2.2.2.1 : Int) B.2.2.2.2 ∧ pI (gl _) (B.2.2.2.1 : Int) B.2.2.2.2 < ((B.2.2.2.1 + 1 : Nat) : Int))
      by_cases g : gl (nx (B.1 s) v x y)
      · rw [pI_y g]; exact Or.inr ⟨by omega, by omega⟩
      · rw [pI_n g]
        rcases h.2 with w | w
        · exact Or.inl w
        · exact Or.inr ⟨w.1, by omega⟩
theorem srB_f {σ : Type} {ok : σ → Int → Int → Int → Prop} {nx : σ → Int → Int → Int → σ} {sm : σ → σ → Prop} {gl : σ → Prop} {N : Int} {m : Nat} {B : Acc σ} (h : FrB B) : FrB (srB ok nx sm gl N m B) := by
  refine fY_p (P := fun B => FrB B) (n := m) (fun B s _ hb => ?_) h m (Nat.le_refl _)
  by_cases q : EnB B ∨ B.2.2.2.1 ≤ s
  · show FrB (pI _ B _)
    rw [pI_y q]; exact hb
  · show FrB (pI _ B _)
    rw [pI_n q]
    have hs : s < B.2.2.2.1 := by have := fun w => q (Or.inr w); omega
    have step : ∀ (B : Acc σ) (v x y : Int), s < B.2.2.2.1 ∧ FrB B → s < (stB ok nx sm gl s v x y B).2.2.2.1 ∧ FrB (stB ok nx sm gl s v x y B) := fun B v x y hb => ⟨by have := (stB_k (ok := ok) (nx := nx) (sm := sm) (gl := gl) (s := s) (v := v) (x := x) (y := y) (B := B)).1; have := hb.1; omega, stB_f hb.2 hb.1⟩
    have hy : ∀ (B : Acc σ) (v x : Int), s < B.2.2.2.1 ∧ FrB B → s < (trY ok nx sm gl N s v x B).2.2.2.1 ∧ FrB (trY ok nx sm gl N s v x B) := fun B v x hb => by
      unfold trY
      exact fY_p (P := fun B => s < B.2.2.2.1 ∧ FrB B) (n := nY N v) (fun B y _ hb => step B v x (y : Int) hb) hb _ (Nat.le_refl _)
    have hx : ∀ (B : Acc σ) (v : Int), s < B.2.2.2.1 ∧ FrB B → s < (trX ok nx sm gl N s v B).2.2.2.1 ∧ FrB (trX ok nx sm gl N s v B) := fun B v hb => by
      unfold trX
      exact fY_p (P := fun B => s < B.2.2.2.1 ∧ FrB B) (n := nX N v) (fun B x _ hb => hy B v (x : Int) hb) hb _ (Nat.le_refl _)
    have hv : s < (trV ok nx sm gl N s B).2.2.2.1 ∧ FrB (trV ok nx sm gl N s B) := by
      unfold trV
      exact fY_p (P := fun B => s < B.2.2.2.1 ∧ FrB B) (n := 12) (fun B v _ hb => hx B (v : Int) hb) ⟨hs, hb⟩ 12 (Nat.le_refl _)
    exact hv.2
theorem b0B_f {σ : Type} {gl : σ → Prop} {z : σ} : FrB (b0B gl z) := by
  refine ⟨fun k h0 hk => ?_, ?_⟩
  · have hk : k < 1 := hk
    omega
  · show pI (gl z) 0 (-9) = -9 ∨ (0 ≤ pI (gl z) (0 : Int) (-9) ∧ pI (gl z) (0 : Int) (-9) < ((1 : Nat) : Int))
    by_cases g : gl z
    · rw [pI_y g]; exact Or.inr ⟨by omega, by omega⟩
    · rw [pI_n g]; exact Or.inl rfl
/-- where the search has ended -/
theorem srB_m {σ : Type} {ok : σ → Int → Int → Int → Prop} {nx : σ → Int → Int → Int → σ} {sm : σ → σ → Prop} {gl : σ → Prop} {N : Int} {x : Nat} {B : Acc σ} (h : EnB (srB ok nx sm gl N x B) ∨ (srB ok nx sm gl N x B).2.2.2.1 ≤ x) : ∀ m : Nat, x ≤ m → srB ok nx sm gl N m B = srB ok nx sm gl N x B := by
  intro m
  induction m with
  | zero => intro hm; rw [show x = 0 by omega]
  | succ m ih =>
    intro hm
    by_cases q : x ≤ m
    · have e := ih q
      show pI (EnB (srB ok nx sm gl N m B) ∨ (srB ok nx sm gl N m B).2.2.2.1 ≤ m) (srB ok nx sm gl N m B) _ = _
      rw [e, pI_y (h.elim Or.inl (fun w => Or.inr (by omega)))]
    · rw [show x = m + 1 by omega]
theorem RpX_v {t kp pa de kp2 pa2 de2 : Nat → Int32} {st fd st2 fd2 : Int32} {ok : (Nat → Int32) → Int → Int → Int → Prop} {nx : (Nat → Int32) → Int → Int → Int → Nat → Int32} {sm : (Nat → Int32) → (Nat → Int32) → Prop} {gl : (Nat → Int32) → Prop} {N : Int} {x y : Int32} {B : Acc (Nat → Int32)} (h : RpX t kp pa de st fd (srB ok nx sm gl N x.toInt.toNat B)) (h0 : 0 ≤ x.toInt) (ey : y.toInt = x.toInt + 1) (hn : ¬ (¬ fd.toInt = -9 ∨ 300 ≤ st.toInt)) (hx : x.toInt < st.toInt) (hs : SsX t kp pa de st fd kp2 pa2 de2 st2 fd2 (fun B => trV ok nx sm gl N x.toInt.toNat B)) : RpX t kp2 pa2 de2 st2 fd2 (srB ok nx sm gl N y.toInt.toNat B) := by
  rw [show y.toInt.toNat = x.toInt.toNat + 1 by omega]
  show RpX t kp2 pa2 de2 st2 fd2 (pI (EnB (srB ok nx sm gl N x.toInt.toNat B) ∨ (srB ok nx sm gl N x.toInt.toNat B).2.2.2.1 ≤ x.toInt.toNat) (srB ok nx sm gl N x.toInt.toNat B) (trV ok nx sm gl N x.toInt.toNat (srB ok nx sm gl N x.toInt.toNat B)))
  have h1 := h.1
  rw [pI_n (fun w => w.elim (fun w => hn ((EnB_X h).mp w)) (fun w => by omega))]
  exact hs _ h
theorem RpX_m {t kp pa de : Nat → Int32} {st fd : Int32} {ok : (Nat → Int32) → Int → Int → Int → Prop} {nx : (Nat → Int32) → Int → Int → Int → Nat → Int32} {sm : (Nat → Int32) → (Nat → Int32) → Prop} {gl : (Nat → Int32) → Prop} {N : Int} {x : Int32} {m : Nat} {B : Acc (Nat → Int32)} (h : RpX t kp pa de st fd (srB ok nx sm gl N x.toInt.toNat B)) (hx : x.toInt.toNat ≤ m) (hn : x.toInt.toNat = m ∨ st.toInt ≤ x.toInt ∨ (¬ fd.toInt = -9 ∨ 300 ≤ st.toInt)) (h0 : 0 ≤ x.toInt) : RpX t kp pa de st fd (srB ok nx sm gl N m B) := by
  rcases hn with q | q
  · rw [← q]; exact h
  · have h1 := h.1
    rw [srB_m (q.elim (fun w => Or.inr (by omega)) (fun w => Or.inl ((EnB_X h).mpr w))) m hx]; exact h
def FrX (pa : Nat → Int32) (st fd : Int) : Prop := (∀ k : Nat, 0 < k → (k : Int) < st → 0 ≤ (pa k).toInt ∧ (pa k).toInt < (k : Int)) ∧ (fd = -9 ∨ (0 ≤ fd ∧ fd < st))
theorem FrX_of {t kp pa de : Nat → Int32} {st fd : Int32} {B : Acc (Nat → Int32)} (h : RpX t kp pa de st fd B) (hf : FrB B) : FrX pa st.toInt fd.toInt := by
  obtain ⟨h1, h2, h3⟩ := h
  refine ⟨fun k h0 hk => ?_, ?_⟩
  · rw [(h3 k (by omega)).2.1]; exact hf.1 k h0 (by omega)
  · rw [h2, h1]; exact hf.2
abbrev paI (pa : Nat → Int32) : Nat → Int := fun k => (pa k).toInt
/-- p steps up from f: x -/
def ApK (pa : Nat → Int32) (f : Nat) (p x : Int) : Prop := 0 ≤ p ∧ x = (anB (paI pa) p.toNat f : Int) ∧ x + p ≤ (f : Int) ∧ ∀ j : Nat, (j : Int) < p → 0 < anB (paI pa) j f
theorem ApK_0 {pa : Nat → Int32} {f p : Int32} (hp : p.toInt = 0) (hf : 0 ≤ f.toInt) : ApK pa f.toInt.toNat p.toInt f.toInt := by
  rw [hp]
  refine ⟨Int.le_refl _, ?_, by omega, fun j hj => by omega⟩
  show f.toInt = ((f.toInt.toNat : Nat) : Int)
  omega
theorem ApK_s {pa : Nat → Int32} {f : Nat} {st : Int} {p q x y : Int32} (h : ApK pa f p.toInt x.toInt) (hx : 0 < x.toInt) (hs : x.toInt < st) (hF : ∀ k : Nat, 0 < k → (k : Int) < st → 0 ≤ (pa k).toInt ∧ (pa k).toInt < (k : Int)) (ey : y = pa x.toNatClampNeg) (eq : q.toInt = p.toInt + 1) : ApK pa f q.toInt y.toInt := by
  obtain ⟨h1, h2, h3, h4⟩ := h
  have ex : x.toNatClampNeg = x.toInt.toNat := rfl
  have w := hF x.toNatClampNeg (by omega) (by omega)
  have e : anB (paI pa) p.toInt.toNat f = x.toNatClampNeg := by omega
  rw [ey]
  refine ⟨by omega, ?_, by omega, fun j hj => ?_⟩
  · rw [show q.toInt.toNat = p.toInt.toNat + 1 by omega]
    show (pa x.toNatClampNeg).toInt = (((pa (anB (paI pa) p.toInt.toNat f)).toInt.toNat : Nat) : Int)
    rw [e]; omega
  · by_cases g : (j : Int) = p.toInt
    · rw [show j = p.toInt.toNat by omega, e]; omega
    · exact h4 j (by omega)
/-- the play's rows from the end -/
def PyK (pa de py : Nat → Int32) (f : Nat) (p i x : Int) : Prop := -1 ≤ i ∧ i < p ∧ x = (anB (paI pa) (p - 1 - i).toNat f : Int) ∧ ∀ j : Nat, (j : Int) < p - 1 - i → py (p - 1 - (j : Int)).toNat = de (anB (paI pa) j f)
theorem PyK_0 {pa de py : Nat → Int32} {f p i : Int32} (hf : 0 ≤ f.toInt) (hp : 0 ≤ p.toInt) (hi : i.toInt = p.toInt - 1) : PyK pa de py f.toInt.toNat p.toInt i.toInt f.toInt := by
  refine ⟨by omega, by omega, ?_, fun j hj => by omega⟩
  rw [show (p.toInt - 1 - i.toInt).toNat = 0 by omega]
  show f.toInt = ((f.toInt.toNat : Nat) : Int)
  omega
theorem PyK_s {pa de py : Nat → Int32} {f : Nat} {st : Int} {p i k x y d : Int32} (h : PyK pa de py f p.toInt i.toInt x.toInt) (hi : 0 ≤ i.toInt) (hx : 0 < x.toInt) (hs : x.toInt < st) (hF : ∀ k : Nat, 0 < k → (k : Int) < st → 0 ≤ (pa k).toInt ∧ (pa k).toInt < (k : Int)) (ey : y = pa x.toNatClampNeg) (ed : d = de x.toNatClampNeg) (ek : k.toInt = i.toInt - 1) : PyK pa de (upd py i.toNatClampNeg d) f p.toInt k.toInt y.toInt := by
  obtain ⟨h1, h2, h3, h4⟩ := h
  have ex : x.toNatClampNeg = x.toInt.toNat := rfl
  have ei : i.toNatClampNeg = i.toInt.toNat := rfl
  have w := hF x.toNatClampNeg (by omega) (by omega)
  have e : anB (paI pa) (p.toInt - 1 - i.toInt).toNat f = x.toNatClampNeg := by omega
  rw [ey]
  refine ⟨by omega, by omega, ?_, fun j hj => ?_⟩
  · rw [show (p.toInt - 1 - k.toInt).toNat = (p.toInt - 1 - i.toInt).toNat + 1 by omega]
    show (pa x.toNatClampNeg).toInt = (((pa (anB (paI pa) (p.toInt - 1 - i.toInt).toNat f)).toInt.toNat : Nat) : Int)
    rw [e]; omega
  · by_cases g : (j : Int) = p.toInt - 1 - i.toInt
    · rw [show (p.toInt - 1 - (j : Int)).toNat = i.toNatClampNeg by omega, pk_us, ed, show j = (p.toInt - 1 - i.toInt).toNat by omega, e]
    · rw [pk_un (by omega)]; exact h4 j (by omega)
def TpR (pa de : Nat → Int32) (fd pl : Int32) (py : Nat → Int32) : Prop := (fd.toInt = -9 ∧ pl.toInt = -9) ∨ (¬ fd.toInt = -9 ∧ 0 ≤ pl.toInt ∧ pl.toInt ≤ 299 ∧ anB (paI pa) pl.toInt.toNat fd.toInt.toNat = 0 ∧ (∀ j : Nat, (j : Int) < pl.toInt → 0 < anB (paI pa) j fd.toInt.toNat) ∧ ∀ j : Nat, (j : Int) < pl.toInt → py (pl.toInt - 1 - (j : Int)).toNat = de (anB (paI pa) j fd.toInt.toNat))
theorem tpE {pa de py : Nat → Int32} {fd pl : Int32} {i x : Int} (hA : ApK pa fd.toInt.toNat pl.toInt 0) (hP : PyK pa de py fd.toInt.toNat pl.toInt i x) (h0 : 0 ≤ fd.toInt) (h9 : fd.toInt ≤ 299) (hi : i < 0 ∨ x ≤ 0) : TpR pa de fd pl py := by
  obtain ⟨a1, a2, a3, a4⟩ := hA
  obtain ⟨p1, p2, p3, p4⟩ := hP
  have hi : i = -1 := by
    rcases hi with h | h
    · omega
    · by_cases q : 0 ≤ i
      · have w := a4 (pl.toInt - 1 - i).toNat (by omega)
        omega
      · omega
  exact Or.inr ⟨by omega, a1, by omega, by omega, a4, fun j hj => p4 j (by omega)⟩

set_option maxHeartbeats 4000000 in
set_option maxRecDepth 100000 in
theorem c_X7_weightOf_e (l : Launch) (D : va_G) (sz : Nat) (v : Int32) : Met l yX7_weightOf wm_X7_weightOf ({ frames := 0, cells := 0, slots := 0, locals := 0 }) (va_Pc [.int v] (pA D sz [] [])) (va_Qi (fun (r : Int32) (_ : Unit) => r = wtV v) oA (ro sz)) 0 0 (ro sz) := by
  refine Met.ofW (cc := cX7_weightOf) (maxL := 1) (ret := (some .int)) (by decide +kernel) rfl ?_
  intro p e s m args below meth c s₁ B hml hv
  obtain ⟨rfl, hsz, hP, hK⟩ := hv
  have hx := B.exec
  have hb := B.bytes
  have hr := B.returns
  have hts := atoms_spec (ws := wm_X7_weightOf) B.pre
  have hown : s.vm.findClass RX7 = some m.cls := findClass_of_methodNamed B.named
  have hlocks := B.notSynchronized
  subst hsz
  have hA : ∀ q : Nat, s.heap.size ≤ q → ro s.heap.size q := fun _ h => h
  have hS : va_S (ro s.heap.size) s.heap s.heap [] := va_S.rf
  have hP : va_P D vwCl [] s.heap := hP
  have hl := lv_entry ([.int v]) (n := 1) (Nat.le_of_ble_eq_true rfl)
  rw [lg_entry_eq]
  generalize (lg_sl ([.int v]) ++ List.replicate (1 - (lg_sl ([.int v])).length) Slot.unset).toArray = ls at hl ⊢
  have hl : lv_has ls 1 [(0, .int v)] := hl
  refine lv_iconst (v := 2) hx hb dX7_weightOf_0 (by decide +kernel) ?_
  refine lv_iload_n hx hb dX7_weightOf_1 rfl (lv_at hl 0 rfl) ?_
  refine lv_imul hx hb dX7_weightOf_2 ?_
  refine lv_topi (fun x1 ex1 => ?_)
  refine lv_iconst (v := 1) hx hb dX7_weightOf_3 (by decide +kernel) ?_
  refine lv_iadd hx hb dX7_weightOf_4 ?_
  refine lv_topi (fun x2 ex2 => ?_)
  refine lv_ldc (v := (-1640531535)) hx hb hown (hts (.constant RX7 163 (-1640531535)) (List.mem_cons_of_mem _ (List.mem_of_getElem? (i := 0) rfl))) dX7_weightOf_5 ?_
  refine lv_imul hx hb dX7_weightOf_7 ?_
  refine lv_topi (fun x3 ex3 => ?_)
  exact ro_iret hx hb hr hlocks hS dX7_weightOf_8 (show x3 = wtV v from by unfold wtV; rw [ex3, ex2, ex1])

def wm_X7_markOfScene_eS : List Cond := .code yX7_markOfScene cX7_markOfScene 3 (some .int) :: (([.fieldLink RX7 39 "TalePlay$Seeker" "scene" "LTalePlay$Scene;", .fieldLink RX7 65 "TalePlay$Scene" "cells" "[I", .methodLink RX7 154 yX7_weightOf, .static yX7_weightOf, .initialized RX7, .code yX7_weightOf cX7_weightOf 1 (some .int), .constant RX7 163 (-1640531535)] : List Cond) ++ wsX70 ++ wsX60)
set_option maxRecDepth 20000 in
theorem gm_X7_markOfScene_eS_X7_weightOf_154 : GoodIn wm_X7_markOfScene_eS (va_wsS RX7 154 yX7_weightOf wm_X7_weightOf) := goodIn_w (List.forall_mem_append.mpr ⟨List.forall_mem_cons.mpr ⟨List.mem_cons_of_mem _ (List.mem_append_left _ (List.mem_append_left _ (List.mem_of_getElem? (i := 2) rfl))), List.forall_mem_cons.mpr ⟨List.mem_cons_of_mem _ (List.mem_append_left _ (List.mem_append_left _ (List.mem_of_getElem? (i := 3) rfl))), List.forall_mem_cons.mpr ⟨List.mem_cons_of_mem _ (List.mem_append_left _ (List.mem_append_left _ (List.mem_of_getElem? (i := 4) rfl))), (fun _ h => absurd h List.not_mem_nil)⟩⟩⟩, List.forall_mem_cons.mpr ⟨List.mem_cons_of_mem _ (List.mem_append_left _ (List.mem_append_left _ (List.mem_of_getElem? (i := 5) rfl))), List.forall_mem_cons.mpr ⟨List.mem_cons_of_mem _ (List.mem_append_left _ (List.mem_append_left _ (List.mem_of_getElem? (i := 6) rfl))), (fun _ h => absurd h List.not_mem_nil)⟩⟩⟩) (by decide +kernel)
set_option maxHeartbeats 4000000 in
set_option maxRecDepth 100000 in
theorem x_X7_markOfScene_eS (l : Launch) (D : va_G) (sz : Nat) (sk : Value) (a : Nat → Nat) (t : Nat → ClassId) (i : Nat → Int32) (q : Int64) (c : Nat → Nat → Int32) (d : Nat → Nat → Int64) (hI : xInv i c) : Met l yX7_markOfScene wm_X7_markOfScene_eS ({ frames := 1, cells := 0, slots := 0, locals := 20 }) (va_Pc [.ref (a 166)] (yA (a 186) D sz (xwS sk a t i q c d) (xtS t))) (va_Qi (fun (r : Int32) (_ : Unit) => (True ∧ (r = mkS (c 179)))) oA (ro sz)) 0 0 (ro sz) := by
  refine Met.ofW (cc := cX7_markOfScene) (maxL := 3) (ret := (some .int)) (by decide +kernel) rfl ?_
  intro p e s m args below meth cd s₁ B hml hv
  obtain ⟨rfl, ⟨hsz, hP, hK⟩, hN, hZ⟩ := hv
  have hx := B.exec
  have hb := B.bytes
  have hr := B.returns
  have hts := atoms_spec (ws := wm_X7_markOfScene_eS) B.pre
  have hown : s.vm.findClass RX7 = some m.cls := findClass_of_methodNamed B.named
  have hlocks := B.notSynchronized
  subst hsz
  have hA : ∀ q : Nat, s.heap.size ≤ q → ro s.heap.size q := fun _ h => h
  have hS : va_S (ro s.heap.size) s.heap s.heap [] := va_S.rf
  have hl := lv_entry ([.ref (a 166)]) (n := 3) (Nat.le_of_ble_eq_true rfl)
  rw [lg_entry_eq]
  generalize (lg_sl ([.ref (a 166)]) ++ List.replicate (3 - (lg_sl ([.ref (a 166)])).length) Slot.unset).toArray = ls at hl ⊢
  have hl : lv_has ls 3 [(0, .ref (a 166))] := hl
  refine lv_iconst (v := 0) hx hb dX7_markOfScene_0 (by decide +kernel) ?_
  refine lv_istore_n (lv' := [(1, .int 0), (0, .ref (a 166))]) hx hb dX7_markOfScene_1 rfl hl (by decide +kernel) rfl (fun ls hl => ?_)
  refine lv_iconst (v := 0) hx hb dX7_markOfScene_2 (by decide +kernel) ?_
  refine lv_istore_n (lv' := [(2, .int 0), (1, .int 0), (0, .ref (a 166))]) hx hb dX7_markOfScene_3 rfl hl (by decide +kernel) rfl (fun ls hl => ?_)
  have lp1 : ∀ (fu : Nat) (y1_2 : Int32) (y1_1 : Int32), (0 ≤ y1_2.toInt ∧ y1_2.toInt ≤ 30) → (y1_1 = sumI (fun o => (c 179) o * wtV (Int32.ofInt (o : Int))) y1_2.toInt.toNat) → (30 - y1_2.toInt).toNat < fu → ∀ (H : Heap) (locs : List Loc) (ls : Array Slot), va_P D vwCl (xwS sk a t i q c d) H → va_S (ro s.heap.size) s.heap H locs → lv_has ls 3 [(2, .int y1_2), (1, .int y1_1), (0, .ref (a 166))] → W p l e (headSpec wm_X7_markOfScene_eS ({ frames := 1, cells := 0, slots := 0, locals := 20 })).room s m ([.ref (a 166)] : List Value).toArray below meth cd H locs 0 0 (MQ below (va_Qi (fun (r : Int32) (_ : Unit) => (True ∧ (r = mkS (c 179)))) oA (ro s.heap.size)) ([.ref (a 166)] : List Value).toArray s 0 0 (ro s.heap.size)) (F0 m 4 ls []) := by
    intro fu
    induction fu with
    | zero => intro y1_2 y1_1 hy1_2 hz1_0 hm; exact absurd hm (Nat.not_lt_zero _)
    | succ fu ih =>
      intro y1_2 y1_1 hy1_2 hz1_0 hm H locs ls hP hS hl
      have ih1 := ih
      refine lv_iload_n hx hb dX7_markOfScene_4 rfl (lv_at hl 0 rfl) ?_
      refine lv_bipush (v := 30) hx hb dX7_markOfScene_5 (by decide +kernel) ?_
      refine lv_icmp_ge (tgt := 33) hx hb dX7_markOfScene_7 (by decide +kernel) (fun c2 => ?_) (fun c2 => ?_)
      · have f2 := (ti_le (a := 30) (b := y1_2.toInt) (by decide +kernel) rfl).mp c2
        refine lv_iload_n hx hb dX7_markOfScene_33 rfl (lv_at hl 1 rfl) ?_
        exact ro_iret hx hb hr hlocks hS dX7_markOfScene_34 ⟨trivial, (show y1_1 = mkS (c 179) from by have h9 := hz1_0; rw [show y1_2.toInt.toNat = 30 by omega] at h9; exact h9)⟩
      · have f2 := mt (ti_le (a := 30) (b := y1_2.toInt) (by decide +kernel) rfl).mpr c2
        refine lv_iload_n hx hb dX7_markOfScene_10 rfl (lv_at hl 1 rfl) ?_
        refine lv_aload_n hx hb dX7_markOfScene_11 rfl (lv_at hl 2 rfl) ?_
        refine xgS_S_scene hx hb hts (fun _ h => List.mem_cons_of_mem _ (List.mem_append_left _ (List.mem_append_right _ h))) hown hK hP (hts (.fieldLink RX7 39 "TalePlay$Seeker" "scene" "LTalePlay$Scene;") (List.mem_cons_of_mem _ (List.mem_append_left _ (List.mem_append_left _ (List.mem_of_getElem? (i := 0) rfl))))) dX7_markOfScene_12 ?_
        refine xgS_SS_cells hx hb hts (fun _ h => List.mem_cons_of_mem _ (List.mem_append_right _ h)) hown hK hP (hts (.fieldLink RX7 65 "TalePlay$Scene" "cells" "[I") (List.mem_cons_of_mem _ (List.mem_append_left _ (List.mem_append_left _ (List.mem_of_getElem? (i := 1) rfl))))) dX7_markOfScene_15 ?_
        refine lv_iload_n hx hb dX7_markOfScene_18 rfl (lv_at hl 0 rfl) ?_
        refine xlS_179 hx hb hK hP (vp_in_iff.mpr (by have h9 : y1_2.toInt = y1_2.toInt := rfl; omega)) dX7_markOfScene_19 (fun x3 ex3 => ?_)
        have rx3 : 0 ≤ x3.toInt ∧ x3.toInt ≤ 16383 ∧ (x3.toInt % 256 = 255 ∨ (x3.toInt % 8 ≤ 4 ∧ x3.toInt / 8 % 32 ≤ 29)) := by rw [ex3]; exact hI.2 179 _
        refine lv_iload_n hx hb dX7_markOfScene_20 rfl (lv_at hl 0 rfl) ?_
        have hPc := hP.sub (ws' := []) [] rfl
        have hKc := hK.sub (tys' := []) [] rfl
        refine ro_calli (va_runS (As := [.int y1_2]) (rest := [.int x3, .int y1_1]) ⟨hx, hb, hml, hown, hts⟩ (c_X7_weightOf_e l D H.size y1_2) (va_cwS 1 hts gm_X7_markOfScene_eS_X7_weightOf_154 rfl rfl rfl (by decide +kernel) ⟨Nat.le_of_ble_eq_true rfl, Nat.le_of_ble_eq_true rfl⟩) (pA_S hKc hPc) rfl rfl hl.1 rfl (lv_room (Nat.le_of_ble_eq_true rfl)) dX7_markOfScene_21 ⟨Nat.le_of_ble_eq_true rfl, Nat.le_of_ble_eq_true rfl⟩) hS hA hP (fun r5 u5 H locs hw5 hP hS => ?_)
        have hw5 : r5 = wtV y1_2 := hw5
        refine lv_imul hx hb dX7_markOfScene_24 ?_
        refine lv_topi (fun x6 ex6 => ?_)
        refine lv_iadd hx hb dX7_markOfScene_25 ?_
        refine lv_topi (fun x7 ex7 => ?_)
        refine lv_istore_n (lv' := [(1, .int x7), (2, .int y1_2), (0, .ref (a 166))]) hx hb dX7_markOfScene_26 rfl hl (by decide +kernel) rfl (fun ls hl => ?_)
        obtain ⟨x8, ex8⟩ : ∃ y : Int32, y = y1_2 + 1 := ⟨_, rfl⟩
        have tx8 := ti_add (a := y1_2.toInt) (b := 1) ex8 rfl (by decide +kernel) (by omega) (by omega)
        refine lv_iinc (v := x8) (lv' := [(2, .int x8), (1, .int x7), (0, .ref (a 166))]) hx hb dX7_markOfScene_27 hl (k := 1) rfl (by rw [ex8]; rfl) (by decide +kernel) rfl (fun ls hl => ?_)
        refine lv_goto (tgt := 4) hx hb dX7_markOfScene_30 (by decide +kernel) ?_
        exact ih1 x8 x7 (show 0 ≤ x8.toInt ∧ x8.toInt ≤ 30 from by have h50 : x8.toInt = (y1_2.toInt + 1) := tx8; omega) (show x7 = sumI (fun o => (c 179) o * wtV (Int32.ofInt (o : Int))) x8.toInt.toNat from sumI_y (g := (fun o => (c 179) o * wtV (Int32.ofInt (o : Int)))) (r := x6) hz1_0 (by omega) tx8 (by show c 179 y1_2.toInt.toNat * wtV (Int32.ofInt ((y1_2.toInt.toNat : Nat) : Int)) = x6; rw [ofI_t (by omega), ex6, ex3, hw5]; rfl) ex7) (by have h50 : x8.toInt = (y1_2.toInt + 1) := tx8; omega) _ _ _ hP hS (lv_sub hl [0, 1, 2] rfl)
  exact lp1 _ (0 : Int32) (0 : Int32) (show 0 ≤ (0 : Int32).toInt ∧ (0 : Int32).toInt ≤ 30 from by decide +kernel) (show (0 : Int32) = sumI (fun o => (c 179) o * wtV (Int32.ofInt (o : Int))) (0 : Int32).toInt.toNat from by rw [show (0 : Int32).toInt.toNat = 0 by decide]; rfl) (Nat.lt_succ_self _) _ _ _ hP hS (lv_sub hl [0, 1, 2] rfl)

