/-! folds by number, and the search told purely -/
noncomputable def pI {α : Type} (P : Prop) (a b : α) : α := @ite α P (Classical.propDecidable P) a b
theorem pI_y {α : Type} {P : Prop} {a b : α} (h : P) : pI P a b = a := if_pos h
theorem pI_n {α : Type} {P : Prop} {a b : α} (h : ¬ P) : pI P a b = b := if_neg h
def fY {α : Type} (f : α → Nat → α) : Nat → α → α
  | 0, a => a
  | k + 1, a => f (fY f k a) k
theorem fY_0 {α : Type} {f : α → Nat → α} {a : α} : fY f 0 a = a := rfl
theorem fY_1 {α : Type} {f : α → Nat → α} {a : α} {k : Nat} : fY f (k + 1) a = f (fY f k a) k := rfl
theorem fY_s {α : Type} {f : α → Nat → α} {a : α} {x y : Int32} (h0 : 0 ≤ x.toInt) (ey : y.toInt = x.toInt + 1) : fY f y.toInt.toNat a = f (fY f x.toInt.toNat a) x.toInt.toNat := by
  rw [show y.toInt.toNat = x.toInt.toNat + 1 by omega]; rfl
/-- nothing changes any more -/
theorem fY_k {α : Type} {f : α → Nat → α} {P : α → Prop} (h : ∀ a k, P a → f a k = a) {a : α} {n : Nat} (hp : P (fY f n a)) : ∀ m : Nat, n ≤ m → fY f m a = fY f n a := by
  intro m
  induction m with
  | zero => intro hm; rw [show n = 0 by omega]
  | succ m ih =>
    intro hm
    by_cases q : n ≤ m
    · rw [fY_1, ih q, h _ _ hp]
    · rw [show n = m + 1 by omega]
theorem fY_p {α : Type} {f : α → Nat → α} {P : α → Prop} {n : Nat} (h : ∀ a k, k < n → P a → P (f a k)) {a : α} (hp : P a) : ∀ m : Nat, m ≤ n → P (fY f m a) := by
  intro m
  induction m with
  | zero => intro _; exact hp
  | succ m ih => intro hm; rw [fY_1]; exact h _ _ (by omega) (ih (by omega))
theorem fY_i {α : Type} {f : α → Nat → α} {a : α} {n : Nat} (h : ∀ k, k < n → f a k = a) : ∀ m : Nat, m ≤ n → fY f m a = a := by
  intro m
  induction m with
  | zero => intro _; rfl
  | succ m ih => intro hm; rw [fY_1, ih (by omega)]; exact h _ (by omega)
/-- what a search has: rows, whence, by which act, how many, which one is found (-9: none) -/
abbrev Acc (σ : Type) : Type := (Nat → σ) × (Nat → Int) × (Nat → Int × Int × Int) × Nat × Int
def EnB {σ : Type} (B : Acc σ) : Prop := ¬ B.2.2.2.2 = -9 ∨ 300 ≤ B.2.2.2.1
def SmB {σ : Type} (sm : σ → σ → Prop) (B : Acc σ) (z : σ) : Prop := ∃ k : Nat, k < B.2.2.2.1 ∧ sm (B.1 k) z
noncomputable def kpB {σ : Type} (gl : σ → Prop) (z : σ) (s : Int) (d : Int × Int × Int) (B : Acc σ) : Acc σ := (fun k => if k = B.2.2.2.1 then z else B.1 k, fun k => if k = B.2.2.2.1 then s else B.2.1 k, fun k => if k = B.2.2.2.1 then d else B.2.2.1 k, B.2.2.2.1 + 1, pI (gl z) (B.2.2.2.1 : Int) B.2.2.2.2)
noncomputable def stB {σ : Type} (ok : σ → Int → Int → Int → Prop) (nx : σ → Int → Int → Int → σ) (sm : σ → σ → Prop) (gl : σ → Prop) (s : Nat) (v x y : Int) (B : Acc σ) : Acc σ := pI (EnB B ∨ ¬ ok (B.1 s) v x y ∨ SmB sm B (nx (B.1 s) v x y)) B (kpB gl (nx (B.1 s) v x y) (s : Int) (v, x, y) B)
def hyB (v : Int) : Prop := v = 3 ∨ v = 4 ∨ v = 7 ∨ v = 8
noncomputable def nY (N v : Int) : Nat := pI (hyB v) N.toNat 1
def nX (N v : Int) : Nat := if v = 0 then 10 else if v < 11 then N.toNat else 1
noncomputable def trY {σ : Type} (ok : σ → Int → Int → Int → Prop) (nx : σ → Int → Int → Int → σ) (sm : σ → σ → Prop) (gl : σ → Prop) (N : Int) (s : Nat) (v x : Int) (B : Acc σ) : Acc σ := fY (fun B y => stB ok nx sm gl s v x (y : Int) B) (nY N v) B
noncomputable def trX {σ : Type} (ok : σ → Int → Int → Int → Prop) (nx : σ → Int → Int → Int → σ) (sm : σ → σ → Prop) (gl : σ → Prop) (N : Int) (s : Nat) (v : Int) (B : Acc σ) : Acc σ := fY (fun B x => trY ok nx sm gl N s v (x : Int) B) (nX N v) B
noncomputable def trV {σ : Type} (ok : σ → Int → Int → Int → Prop) (nx : σ → Int → Int → Int → σ) (sm : σ → σ → Prop) (gl : σ → Prop) (N : Int) (s : Nat) (B : Acc σ) : Acc σ := fY (fun B v => trX ok nx sm gl N s (v : Int) B) 12 B
noncomputable def srB {σ : Type} (ok : σ → Int → Int → Int → Prop) (nx : σ → Int → Int → Int → σ) (sm : σ → σ → Prop) (gl : σ → Prop) (N : Int) (m : Nat) (B : Acc σ) : Acc σ := fY (fun B s => pI (EnB B ∨ B.2.2.2.1 ≤ s) B (trV ok nx sm gl N s B)) m B
noncomputable def b0B {σ : Type} (gl : σ → Prop) (z : σ) : Acc σ := (fun _ => z, fun _ => -9, fun _ => (0, 0, 0), 1, pI (gl z) 0 (-9))
theorem stB_e {σ : Type} {ok : σ → Int → Int → Int → Prop} {nx : σ → Int → Int → Int → σ} {sm : σ → σ → Prop} {gl : σ → Prop} {s : Nat} {v x y : Int} {B : Acc σ} (h : EnB B) : stB ok nx sm gl s v x y B = B := pI_y (Or.inl h)
theorem stB_o {σ : Type} {ok : σ → Int → Int → Int → Prop} {nx : σ → Int → Int → Int → σ} {sm : σ → σ → Prop} {gl : σ → Prop} {s : Nat} {v x y : Int} {B : Acc σ} (h : ¬ ok (B.1 s) v x y) : stB ok nx sm gl s v x y B = B := pI_y (Or.inr (Or.inl h))
theorem trY_e {σ : Type} {ok : σ → Int → Int → Int → Prop} {nx : σ → Int → Int → Int → σ} {sm : σ → σ → Prop} {gl : σ → Prop} {N : Int} {s : Nat} {v x : Int} {B : Acc σ} (h : EnB B) : trY ok nx sm gl N s v x B = B := fY_i (n := nY N v) (fun _ _ => stB_e h) _ (Nat.le_refl _)
theorem trY_o {σ : Type} {ok : σ → Int → Int → Int → Prop} {nx : σ → Int → Int → Int → σ} {sm : σ → σ → Prop} {gl : σ → Prop} {N : Int} {s : Nat} {v x : Int} {B : Acc σ} (h : ∀ y, ¬ ok (B.1 s) v x y) : trY ok nx sm gl N s v x B = B := fY_i (n := nY N v) (fun _ _ => stB_o (h _)) _ (Nat.le_refl _)
theorem trX_e {σ : Type} {ok : σ → Int → Int → Int → Prop} {nx : σ → Int → Int → Int → σ} {sm : σ → σ → Prop} {gl : σ → Prop} {N : Int} {s : Nat} {v : Int} {B : Acc σ} (h : EnB B) : trX ok nx sm gl N s v B = B := fY_i (n := nX N v) (fun _ _ => trY_e h) _ (Nat.le_refl _)
/-- rows that stand stay -/
def KeB {σ : Type} (B C : Acc σ) : Prop := B.2.2.2.1 ≤ C.2.2.2.1 ∧ ∀ k, k < B.2.2.2.1 → C.1 k = B.1 k
theorem KeB_r {σ : Type} {B : Acc σ} : KeB B B := ⟨Nat.le_refl _, fun _ _ => rfl⟩
theorem stB_k {σ : Type} {ok : σ → Int → Int → Int → Prop} {nx : σ → Int → Int → Int → σ} {sm : σ → σ → Prop} {gl : σ → Prop} {s : Nat} {v x y : Int} {B : Acc σ} : KeB B (stB ok nx sm gl s v x y B) := by
  by_cases q : EnB B ∨ ¬ ok (B.1 s) v x y ∨ SmB sm B (nx (B.1 s) v x y)
  · rw [show stB ok nx sm gl s v x y B = B from pI_y q]; exact KeB_r
  · rw [show stB ok nx sm gl s v x y B = kpB gl (nx (B.1 s) v x y) (s : Int) (v, x, y) B from pI_n q]
    refine ⟨Nat.le_succ _, fun k hk => ?_⟩
    show (if k = B.2.2.2.1 then _ else B.1 k) = B.1 k
    rw [if_neg (by omega)]
/-- the acts that are tried -/
def TrA (N v x y : Int) : Prop := 0 ≤ v ∧ v ≤ 11 ∧ 0 ≤ x ∧ x < (nX N v : Int) ∧ 0 ≤ y ∧ y < (nY N v : Int)
/-! the class's search: rows of cells, marks, slots -/
def rwX (t kp : Nat → Int32) (k : Nat) : Nat → Int32 := fun o => if o < 30 then kp (30 * k + o) else t o
def pkD (d : Int × Int × Int) : Int := d.1 * 1024 + d.2.1 * 32 + d.2.2
def RpX (t kp pa de : Nat → Int32) (st fd : Int32) (B : Acc (Nat → Int32)) : Prop := st.toInt = (B.2.2.2.1 : Int) ∧ fd.toInt = B.2.2.2.2 ∧ ∀ k : Nat, k < B.2.2.2.1 → B.1 k = rwX t kp k ∧ (pa k).toInt = B.2.1 k ∧ (de k).toInt = pkD (B.2.2.1 k)
theorem RpX_k {t ce kp pa de : Nat → Int32} {st st2 fd fd2 par dee sp dp nn : Int32} {B : Acc (Nat → Int32)} {gl : (Nat → Int32) → Prop} {d : Int × Int × Int} (h : RpX t kp pa de st fd B) (h0 : 0 ≤ st.toInt) (e2 : st2.toInt = st.toInt + 1) (ht : ∀ o : Nat, 30 ≤ o → ce o = t o) (hd : dee.toInt = pkD d) (hf : (gl ce ∧ fd2 = st) ∨ (¬ gl ce ∧ fd2 = fd)) (es : sp.toInt = 0) (ed : dp.toInt = st.toInt * 30) (en : nn.toInt = 30) :
    RpX t (va_cpy ce kp sp.toNatClampNeg dp.toNatClampNeg nn.toNatClampNeg) (upd pa st.toNatClampNeg par) (upd de st.toNatClampNeg dee) st2 fd2 (kpB gl ce par.toInt d B) := by
  obtain ⟨h1, h2, h3⟩ := h
  have c1 : sp.toNatClampNeg = sp.toInt.toNat := rfl
  have c2 : dp.toNatClampNeg = dp.toInt.toNat := rfl
  have c3 : nn.toNatClampNeg = nn.toInt.toNat := rfl
  have c4 : st.toNatClampNeg = st.toInt.toNat := rfl
  refine ⟨?_, ?_, fun k hk => ?_⟩
  · show st2.toInt = ((B.2.2.2.1 + 1 : Nat) : Int); omega
  · show fd2.toInt = pI (gl ce) (B.2.2.2.1 : Int) B.2.2.2.2
    rcases hf with ⟨g, e⟩ | ⟨g, e⟩
    · rw [pI_y g, e, h1]
    · rw [pI_n g, e, h2]
  · have hk : k < B.2.2.2.1 + 1 := hk
    show (if k = B.2.2.2.1 then ce else B.1 k) = rwX t (va_cpy ce kp sp.toNatClampNeg dp.toNatClampNeg nn.toNatClampNeg) k ∧ (upd pa st.toNatClampNeg par k).toInt = (if k = B.2.2.2.1 then par.toInt else B.2.1 k) ∧ (upd de st.toNatClampNeg dee k).toInt = pkD (if k = B.2.2.2.1 then d else B.2.2.1 k)
    by_cases g : k = B.2.2.2.1
    · have g2 : k = st.toNatClampNeg := by omega
      rw [if_pos g, if_pos g, if_pos g, g2, pk_us, pk_us]
      refine ⟨?_, rfl, hd⟩
      funext o
      unfold rwX va_cpy
      by_cases q : o < 30
      · rw [if_pos q, if_pos (by omega), show sp.toNatClampNeg + (30 * st.toNatClampNeg + o - dp.toNatClampNeg) = o by omega]
      · rw [if_neg q]; exact ht o (by omega)
    · have g2 : ¬ k = st.toNatClampNeg := by omega
      rw [if_neg g, if_neg g, if_neg g, pk_un g2, pk_un g2]
      refine ⟨?_, (h3 k (by omega)).2⟩
      rw [(h3 k (by omega)).1]
      funext o
      unfold rwX va_cpy
      by_cases q : o < 30
      · rw [if_pos q, if_pos q, if_neg (by omega)]
      · rw [if_neg q, if_neg q]
/-- a row again, as the scene -/
theorem rwX_c {t ce kp : Nat → Int32} {k : Nat} {sp dp nn : Int32} (ht : ∀ o : Nat, 30 ≤ o → ce o = t o) (es : sp.toInt = 30 * (k : Int)) (ed : dp.toInt = 0) (en : nn.toInt = 30) : va_cpy kp ce sp.toNatClampNeg dp.toNatClampNeg nn.toNatClampNeg = rwX t kp k := by
  have c1 : sp.toNatClampNeg = sp.toInt.toNat := rfl
  have c2 : dp.toNatClampNeg = dp.toInt.toNat := rfl
  have c3 : nn.toNatClampNeg = nn.toInt.toNat := rfl
  funext o
  unfold rwX va_cpy
  by_cases q : o < 30
  · rw [if_pos q, if_pos (by omega), show sp.toNatClampNeg + (o - dp.toNatClampNeg) = 30 * k + o by omega]
  · rw [if_neg q, if_neg (by omega)]; exact ht o (by omega)
-- marks
theorem sumK_c {g h : Nat → Int32} : ∀ n : Nat, (∀ x, x < n → g x = h x) → sumI g n = sumI h n := by
  intro n
  induction n with
  | zero => intro _; rfl
  | succ n ih => intro e; show sumI g n + g n = sumI h n + h n; rw [ih (fun x hx => e x (by omega)), e n (by omega)]
theorem sumK_1 {g h : Nat → Int32} {j : Nat} {w : Int32} : ∀ n : Nat, j < n → g j = w + h j → (∀ x, x < n → ¬ x = j → g x = h x) → sumI g n = w + sumI h n := by
  intro n
  induction n with
  | zero => intro a _ _; exact absurd a (Nat.not_lt_zero _)
  | succ n ih =>
    intro a e1 e2
    show sumI g n + g n = w + (sumI h n + h n)
    by_cases q : j = n
    · subst q
      rw [sumK_c (h := h) j (fun x hx => e2 x (by omega) (by omega)), e1, ← Int32.add_assoc, ← Int32.add_assoc, Int32.add_comm w]
    · rw [ih (by omega) e1 (fun x hx hn => e2 x (by omega) hn), e2 n (by omega) (by omega), Int32.add_assoc]
def wtV (v : Int32) : Int32 := (2 * v + 1) * (-1640531535)
def mkS (ce : Nat → Int32) : Int32 := sumI (fun o => ce o * wtV (Int32.ofInt (o : Int))) 30
theorem ofI_t {x : Int32} (h : 0 ≤ x.toInt) : Int32.ofInt ((x.toInt.toNat : Nat) : Int) = x := by
  rw [show ((x.toInt.toNat : Nat) : Int) = x.toInt by omega]; exact Int32.ofInt_toInt x
theorem mkS_c {ce de : Nat → Int32} (h : ∀ o : Nat, o < 30 → ce o = de o) : mkS ce = mkS de := sumK_c 30 (fun o ho => by rw [h o ho])
theorem mkS_u {ce : Nat → Int32} {j v : Int32} (h0 : 0 ≤ j.toInt) (h1 : j.toInt ≤ 29) : mkS (upd ce j.toNatClampNeg v) = mkS ce + (v - ce j.toNatClampNeg) * wtV j := by
  have e : j.toNatClampNeg = j.toInt.toNat := rfl
  have s := sumK_1 (g := fun o => upd ce j.toNatClampNeg v o * wtV (Int32.ofInt (o : Int))) (h := fun o => ce o * wtV (Int32.ofInt (o : Int))) (j := j.toNatClampNeg) (w := (v - ce j.toNatClampNeg) * wtV j) 30 (by omega) (by
    show upd ce j.toNatClampNeg v j.toNatClampNeg * wtV (Int32.ofInt ((j.toNatClampNeg : Nat) : Int)) = (v - ce j.toNatClampNeg) * wtV j + ce j.toNatClampNeg * wtV (Int32.ofInt ((j.toNatClampNeg : Nat) : Int))
    rw [pk_us, show Int32.ofInt ((j.toNatClampNeg : Nat) : Int) = j from ofI_t h0, ← Int32.add_mul, Int32.sub_add_cancel]) (fun x hx hn => by
    show upd ce j.toNatClampNeg v x * _ = ce x * _
    rw [pk_un hn])
  unfold mkS
  rw [s, Int32.add_comm]
-- slots
def hmV (m : Int32) : Int32 := ((m * (-1640531535)).toUInt32 >>> ((22 : Int32).toUInt32 &&& Int32.toUInt32 31)).toInt32
def prS (m : Int32) (t : Nat) : Nat := (hmV m).toInt.toNat + t - (if (hmV m).toInt.toNat + t < 1024 then 0 else 1024)
theorem hmV_r (m : Int32) : 0 ≤ (hmV m).toInt ∧ (hmV m).toInt ≤ 1023 := ushr22 (x := m * (-1640531535)) rfl
theorem prS_0 {m : Int32} : prS m 0 = (hmV m).toInt.toNat := by
  have := hmV_r m
  unfold prS
  rw [if_pos (by omega)]; omega
theorem prS_s {m : Int32} {t : Nat} (h : t < 1024) : ((prS m t : Nat) + 1) % 1024 = prS m (t + 1) := by
  have := hmV_r m
  unfold prS
  split <;> split <;> omega
/-- every slot is met -/
theorem prS_a {m : Int32} {p : Nat} (h : p < 1024) : ∃ t : Nat, t < 1024 ∧ prS m t = p := by
  have := hmV_r m
  by_cases q : (hmV m).toInt.toNat ≤ p
  · refine ⟨p - (hmV m).toInt.toNat, by omega, ?_⟩
    unfold prS
    rw [if_pos (by omega)]; omega
  · refine ⟨p + 1024 - (hmV m).toInt.toNat, by omega, ?_⟩
    unfold prS
    rw [if_neg (by omega)]; omega
def slB (sl : Nat → Int32) (p : Nat) : Bool := decide (¬ (sl p).toInt = -9)
def HsI (sl mr kp : Nat → Int32) (st : Int) : Prop := (∀ p : Nat, p < 1024 → (sl p).toInt = -9 ∨ (0 ≤ (sl p).toInt ∧ (sl p).toInt < st)) ∧ (∀ k : Nat, (k : Int) < st → mr k = mkS (fun o => kp (30 * k + o)) ∧ ∃ t : Nat, t < 1024 ∧ (sl (prS (mr k) t)).toInt = (k : Int) ∧ ∀ t2 : Nat, t2 < t → ¬ (sl (prS (mr k) t2)).toInt = -9) ∧ (cnt (slB sl) 1024 : Int) ≤ st
/-- the rows beyond the objects are alike -/
def TaI (ce kp : Nat → Int32) (st N : Int) : Prop := ∀ k : Nat, (k : Int) < st → ∀ o : Nat, N ≤ (o : Int) → o < 30 → kp (30 * k + o) = ce o
def ScK (ce kp : Nat → Int32) (N : Int) (k : Nat) : Prop := ∀ o : Nat, (o : Int) < N → kp (30 * k + o) = ce o
/-- the slots that were looked at: none free, none of the scene -/
def SlK (sl kp ce : Nat → Int32) (m : Int32) (N : Int) (t : Nat) : Prop := ∀ t2 : Nat, t2 < t → ¬ (sl (prS m t2)).toInt = -9 ∧ ¬ ScK ce kp N (sl (prS m t2)).toInt.toNat
theorem SlK_0 {sl kp ce : Nat → Int32} {m : Int32} {N : Int} : SlK sl kp ce m N 0 := fun t2 h => absurd h (Nat.not_lt_zero _)
theorem SlK_s {sl kp ce : Nat → Int32} {m : Int32} {N : Int} {t : Nat} (h : SlK sl kp ce m N t) (h1 : ¬ (sl (prS m t)).toInt = -9) (h2 : ¬ ScK ce kp N (sl (prS m t)).toInt.toNat) : SlK sl kp ce m N (t + 1) := fun t2 ht => by
  by_cases q : t2 = t
  · subst q; exact ⟨h1, h2⟩
  · exact h t2 (by omega)
/-- a state that the scene is has the scene's mark -/
theorem HsI_m {sl mr kp ce : Nat → Int32} {st N : Int} {k : Nat} (h : HsI sl mr kp st) (ha : TaI ce kp st N) (hk : (k : Int) < st) (hs : ScK ce kp N k) : mr k = mkS ce := by
  rw [(h.2.1 k hk).1]
  exact mkS_c (fun o ho => by
    by_cases q : (o : Int) < N
    · exact hs o q
    · exact ha k hk o (by omega) ho)
/-- a free slot behind those that were looked at: the scene is no state -/
theorem SlK_f {sl mr kp ce : Nat → Int32} {st N : Int} {t : Nat} (h : HsI sl mr kp st) (ha : TaI ce kp st N) (hk : SlK sl kp ce (mkS ce) N t) (hf : (sl (prS (mkS ce) t)).toInt = -9) : ∀ k : Nat, (k : Int) < st → ¬ ScK ce kp N k := fun k hk2 hs => by
  have e := HsI_m h ha hk2 hs
  obtain ⟨t2, h1, h2, h3⟩ := (h.2.1 k hk2).2
  rw [e] at h2 h3
  by_cases q : t2 < t
  · refine (hk t2 q).2 ?_
    rw [h2, show ((k : Int)).toNat = k by omega]; exact hs
  · by_cases q2 : t2 = t
    · subst q2; omega
    · exact h3 t (by omega) hf
/-- not all slots are taken -/
theorem SlK_n {sl mr kp ce : Nat → Int32} {st N : Int} {m : Int32} (h : HsI sl mr kp st) (hs : st ≤ 300) (hk : SlK sl kp ce m N 1024) : False := by
  have a : ∀ p : Nat, p < 1024 → slB sl p = true := fun p hp => by
    obtain ⟨t, h1, h2⟩ := prS_a (m := m) hp
    have := (hk t h1).1
    rw [h2] at this
    unfold slB
    exact decide_eq_true this
  have c : 1024 ≤ cnt (slB sl) 1024 := by
    have q := cnt_mono (P := fun _ => true) (Q := slB sl) (n := 1024) (fun j hj _ => a j hj)
    rw [cnt_all] at q; exact q
  have := h.2.2
  omega
theorem cnt_1r {P : Nat → Bool} {n : Nat} : cnt P (n + 1) = cnt P n + (if P n = true then 1 else 0) := rfl
theorem slB_n {sl : Nat → Int32} {j k : Nat} {v : Int32} (h : ¬ k = j) : slB (upd sl j v) k = slB sl k := by
  unfold slB
  rw [pk_un h]
theorem cnt_p1 {P Q : Nat → Bool} {j : Nat} (h : ∀ k, ¬ k = j → P k = Q k) : ∀ n : Nat, cnt P n ≤ cnt Q n + 1 ∧ (n ≤ j → cnt P n = cnt Q n) := by
  intro n
  induction n with
  | zero => exact ⟨Nat.zero_le _, fun _ => rfl⟩
  | succ n ih =>
    rw [cnt_1r, cnt_1r]
    by_cases q : n = j
    · refine ⟨?_, fun w => by omega⟩
      rw [ih.2 (by omega)]
      split <;> split <;> omega
    · rw [h n q]
      exact ⟨by have := ih.1; omega, fun w => by rw [ih.2 (by omega)]⟩
theorem cnt_sl {sl : Nat → Int32} {j : Nat} {v : Int32} (n : Nat) : cnt (slB (upd sl j v)) n ≤ cnt (slB sl) n + 1 := (cnt_p1 (j := j) (fun _ h => slB_n h) n).1
/-- a state more -/
theorem HsI_k {sl mr kp ce : Nat → Int32} {st st2 slot mk sp dp nn : Int32} {t : Nat} (h : HsI sl mr kp st.toInt) (h0 : 0 ≤ st.toInt) (e2 : st2.toInt = st.toInt + 1) (ht : t < 1024) (hp : slot.toNatClampNeg = prS mk t) (hf : (sl slot.toNatClampNeg).toInt = -9) (hb : ∀ t2 : Nat, t2 < t → ¬ (sl (prS mk t2)).toInt = -9) (hm : mk = mkS ce) (es : sp.toInt = 0) (ed : dp.toInt = st.toInt * 30) (en : nn.toInt = 30) : HsI (upd sl slot.toNatClampNeg st) (upd mr st.toNatClampNeg mk) (va_cpy ce kp sp.toNatClampNeg dp.toNatClampNeg nn.toNatClampNeg) st2.toInt := by
  have c1 : sp.toNatClampNeg = sp.toInt.toNat := rfl
  have c2 : dp.toNatClampNeg = dp.toInt.toNat := rfl
  have c3 : nn.toNatClampNeg = nn.toInt.toNat := rfl
  have c4 : st.toNatClampNeg = st.toInt.toNat := rfl
  refine ⟨fun p hp2 => ?_, fun k hk => ?_, ?_⟩
  · by_cases q : p = slot.toNatClampNeg
    · rw [q, pk_us]; exact Or.inr ⟨h0, by omega⟩
    · rw [pk_un q]
      rcases h.1 p hp2 with w | w
      · exact Or.inl w
      · exact Or.inr ⟨w.1, by omega⟩
  · by_cases q : k = st.toNatClampNeg
    · rw [q, pk_us]
      refine ⟨?_, t, ht, ?_, fun t2 h2 => ?_⟩
      · rw [hm]
        exact mkS_c (fun o ho => by
          unfold va_cpy
          rw [if_pos (by omega), show sp.toNatClampNeg + (30 * st.toNatClampNeg + o - dp.toNatClampNeg) = o by omega])
      · rw [← hp, pk_us]; omega
      · by_cases q2 : prS mk t2 = slot.toNatClampNeg
        · rw [q2, pk_us]; omega
        · rw [pk_un q2]; exact hb t2 h2
    · obtain ⟨g1, t3, g2, g3, g4⟩ := h.2.1 k (by omega)
      rw [pk_un q]
      refine ⟨?_, t3, g2, ?_, fun t2 h2 => ?_⟩
      · rw [g1]
        exact mkS_c (fun o ho => by
          unfold va_cpy
          rw [if_neg (by omega)])
      · by_cases q2 : prS (mr k) t3 = slot.toNatClampNeg
        · rw [q2] at g3; omega
        · rw [pk_un q2]; exact g3
      · by_cases q2 : prS (mr k) t2 = slot.toNatClampNeg
        · rw [q2, pk_us]; omega
        · rw [pk_un q2]; exact g4 t2 h2
  · have := cnt_sl (sl := sl) (j := slot.toNatClampNeg) (v := st) 1024
    have := h.2.2
    omega
theorem HsI_0 {sl mr kp : Nat → Int32} {st : Int} (hs : st = 0) (h : ∀ p : Nat, (sl p).toInt = -9) : HsI sl mr kp st := by
  refine ⟨fun p _ => Or.inl (h p), fun k hk => by omega, ?_⟩
  have q : ∀ n : Nat, cnt (slB sl) n = 0 := fun n => by
    induction n with
    | zero => rfl
    | succ n ih =>
      show cnt (slB sl) n + (if slB sl n = true then 1 else 0) = 0
      rw [if_neg (by unfold slB; rw [decide_eq_true_iff]; exact fun w => w (h n)), ih]
  rw [q, hs]; decide

/-! an act's outcome is one number -/
theorem FlB_u {c r s : Int32} {k : Int} {on : Prop} (h : FlB c r k on) (h2 : FlB c s k on) (r0 : 0 ≤ r.toInt ∧ r.toInt ≤ 16383) (s0 : 0 ≤ s.toInt ∧ s.toInt ≤ 16383) (e : r.toInt % 256 = s.toInt % 256) : r = s := by
  refine bq_ext (fun i hi => ?_)
  by_cases q : i < 8
  · rw [bq_x r0.1 hi, bq_x s0.1 hi]
    have a : ∀ n : Nat, (n % 2 ^ 8).testBit i = n.testBit i := fun n => by rw [Nat.testBit_mod_two_pow]; simp [q]
    rw [← a r.toInt.toNat, ← a s.toInt.toNat, show r.toInt.toNat % 2 ^ 8 = s.toInt.toNat % 2 ^ 8 by omega]
  · by_cases q2 : i < 14
    · have w := (h ((i - 8 : Nat) : Int) (by omega) (by omega)).trans (h2 ((i - 8 : Nat) : Int) (by omega) (by omega)).symm
      unfold hbt at w
      rw [show 8 + (((i - 8 : Nat) : Int)).toNat = i by omega] at w
      exact Bool.eq_iff_iff.mpr w
    · rw [bq_x r0.1 hi, bq_x s0.1 hi]
      have b : 2 ^ 14 ≤ 2 ^ i := Nat.pow_le_pow_right (by decide +kernel) (by omega)
      rw [Nat.testBit_lt_two_pow (show r.toInt.toNat < 2 ^ i by omega), Nat.testBit_lt_two_pow (show s.toInt.toNat < 2 ^ i by omega)]
theorem OuR_u {v f g : Int} {c r s : Int32} (h : OuR v c r f g) (h2 : OuR v c s f g) (r0 : 0 ≤ r.toInt ∧ r.toInt ≤ 16383) (s0 : 0 ≤ s.toInt ∧ s.toInt ≤ 16383) : r = s := by
  rcases h with ⟨a, e⟩ | ⟨a, e, w⟩ | ⟨a, e, w⟩ | ⟨a, e⟩
  · rcases h2 with ⟨b, d⟩ | ⟨b, d, u⟩ | ⟨b, d, u⟩ | ⟨b, d⟩
    · exact Int32.toInt_inj.mp (by omega)
    · exfalso; omega
    · exfalso; omega
    · exfalso; omega
  · rcases h2 with ⟨b, d⟩ | ⟨b, d, u⟩ | ⟨b, d, u⟩ | ⟨b, d⟩
    · exfalso; omega
    · exact FlB_u w u r0 s0 (by omega)
    · exfalso; omega
    · exfalso; omega
  · rcases h2 with ⟨b, d⟩ | ⟨b, d, u⟩ | ⟨b, d, u⟩ | ⟨b, d⟩
    · exfalso; omega
    · exfalso; omega
    · exact FlB_u w u r0 s0 (by omega)
    · exfalso; omega
  · rcases h2 with ⟨b, d⟩ | ⟨b, d, u⟩ | ⟨b, d, u⟩ | ⟨b, d⟩
    · exfalso; omega
    · exfalso; omega
    · exfalso; omega
    · rw [e, d]
noncomputable def ouV (v : Int) (c : Int32) (f g : Int) : Int32 := @Classical.epsilon Int32 ⟨0⟩ (fun r => OuR v c r f g ∧ 0 ≤ r.toInt ∧ r.toInt ≤ 16383)
theorem ouV_e {v f g : Int} {c r : Int32} (h : OuR v c r f g) (h0 : 0 ≤ r.toInt ∧ r.toInt ≤ 16383) : r = ouV v c f g := by
  have s := @Classical.epsilon_spec Int32 (fun r => OuR v c r f g ∧ 0 ≤ r.toInt ∧ r.toInt ≤ 16383) ⟨r, h, h0⟩
  exact OuR_u h s.1 h0 s.2
/-! reasons and ends of acts as functions of the cells -/
noncomputable def rxC (Z : Int → Int) (ld dr sz ce : Nat → Int32) (SN RC : Int → Prop) (p N v w : Int) : Int := rxV v (goV (ByR Z (hF ce) (fX ce) p) (ld ((hF ce) p * 10 + w).toNat).toInt (dr ((hF ce) p * 10 + w).toNat).toInt (bT ce 0)) (takeV (SN w) (w = p ∨ ChB 30 (hF ce) ((hF ce) p) w) (Hd (hF ce) (fX ce) p w) (¬ ((Z w = 1 ∨ 3 ≤ Z w) ∧ ¬ Z w = 5) ∨ (bT ce 3) w ∨ (fX ce) w = 4) (RC w) (AnB Z (hF ce) p 30 ((hF ce) w)) (100 < (wtB Z sz (lsP ce) N.toNat ((31 : Int) - 0).toNat w.toNat + sumI (fun x => if lsP ce 2 p x = true then wtB Z sz (lsP ce) N.toNat ((30 : Int) - 0).toNat x else 0) N.toNat).toInt)) (iV (¬ (Hd (hF ce) (fX ce) p w)) 11 0) (shutV v (SN w) (Z w = 2 ∨ Z w = 3) ((bT ce 0) w) ((bT ce 1) w) (RC w) 0) (wearV (Hd (hF ce) (fX ce) p w) ((bT ce 4) w)) (enterV (SN w) (Z w = 3 ∨ Z w = 4) (ChB 30 (hF ce) ((hF ce) w) p) (Z w = 3 ∧ ¬ (bT ce 0) w) (RC w) ((hF ce) p = w)) (leaveV ((hF ce) p = -9 ∨ (ByR Z (hF ce) (fX ce) p)) (Z ((hF ce) p) = 3 ∧ ¬ (bT ce 0) ((hF ce) p)) ((fX ce) ((hF ce) p) = 0 ∨ (fX ce) ((hF ce) p) = 1))
noncomputable def ryC (Z : Int → Int) (kb as ce : Nat → Int32) (SN RC : Int → Prop) (p N v w y : Int) : Int := ryV v (putV (SN y) (((0 : Int) = 0 ∧ Z y = 3) ∨ (¬ (0 : Int) = 0 ∧ Z y = 4)) (y = w ∨ ChB 30 (hF ce) ((hF ce) y) w) ((0 : Int) = 0 ∧ ¬ (bT ce 0) y) (RC y) (8 ≤ ((cnt (lsP ce 0 y) N.toNat : Nat) : Int))) (putV (SN y) (((1 : Int) = 0 ∧ Z y = 3) ∨ (¬ (1 : Int) = 0 ∧ Z y = 4)) (y = w ∨ ChB 30 (hF ce) ((hF ce) y) w) ((1 : Int) = 0 ∧ ¬ (bT ce 0) y) (RC y) (8 ≤ ((cnt (lsP ce 1 y) N.toNat : Nat) : Int))) (keyV (Hd (hF ce) (fX ce) p y) ((kyV kb as w) = y))
theorem rxV_o {v go tk hd sh wr en lv tk2 sh2 en2 : Int} (h : ¬ (1 ≤ v ∧ v ≤ 10)) : rxV v go tk hd sh wr en lv = rxV v go tk2 hd sh2 wr en2 lv := by
  have h1 : ¬ v = 1 := by omega
  have h2 : ¬ (v = 2 ∨ v = 3 ∨ v = 4) := by omega
  have h5 : ¬ (5 ≤ v ∧ v ≤ 8) := by omega
  have h9 : ¬ v = 9 := by omega
  have h10 : ¬ v = 10 := by omega
  unfold rxV
  simp only [if_neg h1, if_neg h2, if_neg h5, if_neg h9, if_neg h10]
theorem ryV_o {v pi po ky pi2 po2 ky2 : Int} (h : ¬ (v = 3 ∨ v = 4 ∨ v = 7 ∨ v = 8)) : ryV v pi po ky = ryV v pi2 po2 ky2 := by
  have h3 : ¬ v = 3 := by omega
  have h4 : ¬ v = 4 := by omega
  have h7 : ¬ (v = 7 ∨ v = 8) := by omega
  unfold ryV
  simp only [if_neg h3, if_neg h4, if_neg h7]
theorem rxC_c {Z : Int → Int} {ld dr sz ce : Nat → Int32} {SN RC SN2 RC2 : Int → Prop} {p N v w : Int} (h : 1 ≤ v ∧ v ≤ 10 → (SN w ↔ SN2 w) ∧ (RC w ↔ RC2 w)) : rxC Z ld dr sz ce SN RC p N v w = rxC Z ld dr sz ce SN2 RC2 p N v w := by
  by_cases q : 1 ≤ v ∧ v ≤ 10
  · have h := h q
    unfold rxC
    rw [propext h.1, propext h.2]
  · unfold rxC
    exact rxV_o q
theorem ryC_c {Z : Int → Int} {kb as ce : Nat → Int32} {SN RC SN2 RC2 : Int → Prop} {p N v w y : Int} (h : hyB v → (SN y ↔ SN2 y) ∧ (RC y ↔ RC2 y)) : ryC Z kb as ce SN RC p N v w y = ryC Z kb as ce SN2 RC2 p N v w y := by
  by_cases q : hyB v
  · have h := h q
    unfold ryC
    rw [propext h.1, propext h.2]
  · unfold ryC
    exact ryV_o q
/-- seen, reached: of the cells -/
def snC (Z : Int → Int) (f1 f2 ce : Nat → Int32) (p N x : Int) : Prop := SnP Z (hF ce) (fX ce) (bT ce 0) (bT ce 5) (bT ce 2) (sD f1 f2) p N x
def rcC (Z : Int → Int) (f1 f2 ce : Nat → Int32) (p N x : Int) : Prop := RcP Z (hF ce) (fX ce) (bT ce 0) (bT ce 5) (bT ce 2) (sD f1 f2) p N x
noncomputable def rxF (Z : Int → Int) (ld dr f1 f2 sz : Nat → Int32) (p N : Int) (ce : Nat → Int32) (v w : Int) : Int := rxC Z ld dr sz ce (snC Z f1 f2 ce p N) (rcC Z f1 f2 ce p N) p N v w
noncomputable def ryF (Z : Int → Int) (kb as f1 f2 : Nat → Int32) (p N : Int) (ce : Nat → Int32) (v w y : Int) : Int := ryC Z kb as ce (snC Z f1 f2 ce p N) (rcC Z f1 f2 ce p N) p N v w y
def okC (Z : Int → Int) (ld dr f1 f2 sz kb as : Nat → Int32) (p N : Int) (ce : Nat → Int32) (v w y : Int) : Prop := rxF Z ld dr f1 f2 sz p N ce v w = 0 ∧ ryF Z kb as f1 f2 p N ce v w y = 0
theorem LkC_i {Z f fm : Int → Int} {op gl lt : Int → Prop} {sd : Int → Int → Prop} {p N x : Int} {sn rc : Nat → Int32} {br : Int32} (h : LkR Z f fm op gl lt sd p N sn rc br) (h0 : 0 ≤ x) (h1 : x < N) : ((sn x.toNat).toInt = 1 ↔ SnP Z f fm op gl lt sd p N x) ∧ ((rc x.toNat).toInt = 1 ↔ RcP Z f fm op gl lt sd p N x) := by
  have w := h.2 x.toNat (by omega)
  rw [show ((x.toNat : Nat) : Int) = x by omega] at w
  have a : ∀ {r : Int32} {P : Prop}, Sm r P → (r.toInt = 1 ↔ P) := fun {r P} s => by
    rcases s with ⟨s1, s2⟩ | ⟨s1, s2⟩
    · exact ⟨fun _ => s2, fun _ => s1⟩
    · exact ⟨fun q => by omega, fun q => absurd q s2⟩
  exact ⟨a w.1, a w.2⟩
def sbX (v p x : Int) : Nat := (if v = 0 ∨ 10 ≤ v then p else x).toNat
theorem sbX_e {v : Int} {p x : Int32} : (sbI v p x).toNatClampNeg = sbX v p.toInt x.toInt := by
  unfold sbI sbX
  by_cases q : v = 0 ∨ 10 ≤ v
  · rw [if_pos q, if_pos q]; rfl
  · rw [if_neg q, if_neg q]; rfl
noncomputable def nxC (Z : Int → Int) (ld : Nat → Int32) (p : Int) (ce : Nat → Int32) (v x y : Int) : Nat → Int32 := upd ce (sbX v p x) (ouV v (ce (sbX v p x)) (plF v Z (fX ce) (hF ce) p x) (plH v (hF ce) p (ld ((hF ce) p * 10 + x).toNat).toInt x y))
def smC (N : Int) (a b : Nat → Int32) : Prop := ∀ o : Nat, (o : Int) < N → a o = b o
def glC (g h : Int) (ce : Nat → Int32) : Prop := hF ce g = h
theorem SmB_X {t kp pa de ce : Nat → Int32} {st fd : Int32} {B : Acc (Nat → Int32)} {N : Int} (h : RpX t kp pa de st fd B) (hN : N ≤ 30) : SmB (smC N) B ce ↔ ∃ k : Nat, (k : Int) < st.toInt ∧ ScK ce kp N k := by
  have e : ∀ k, k < B.2.2.2.1 → (smC N (B.1 k) ce ↔ ScK ce kp N k) := fun k hk => by
    rw [(h.2.2 k hk).1]
    unfold smC ScK rwX
    exact ⟨fun w o ho => by have := w o ho; rw [if_pos (by omega)] at this; exact this, fun w o ho => by rw [if_pos (by omega)]; exact w o ho⟩
  have h1 := h.1
  constructor
  · rintro ⟨k, hk, w⟩; exact ⟨k, by omega, (e k hk).mp w⟩
  · rintro ⟨k, hk, w⟩; exact ⟨k, by omega, (e k (by omega)).mpr w⟩
def SlR (sl kp ce : Nat → Int32) (m : Int32) (N st : Int) (r : Int32) : Prop := ∃ t : Nat, t < 1024 ∧ r.toNatClampNeg = prS m t ∧ (∀ t2 : Nat, t2 < t → ¬ (sl (prS m t2)).toInt = -9) ∧ (((sl r.toNatClampNeg).toInt = -9 ∧ ∀ k : Nat, (k : Int) < st → ¬ ScK ce kp N k) ∨ (¬ (sl r.toNatClampNeg).toInt = -9 ∧ ∃ k : Nat, (k : Int) < st ∧ ScK ce kp N k))
/-- a slot that may be taken -/
def SlF (sl : Nat → Int32) (m r : Int32) : Prop := ∃ t : Nat, t < 1024 ∧ r.toNatClampNeg = prS m t ∧ (∀ t2 : Nat, t2 < t → ¬ (sl (prS m t2)).toInt = -9) ∧ (sl r.toNatClampNeg).toInt = -9
theorem SlR_f {sl kp ce : Nat → Int32} {m r : Int32} {N st : Int} (h : SlR sl kp ce m N st r) (hf : (sl r.toNatClampNeg).toInt = -9) : SlF sl m r ∧ ¬ ∃ k : Nat, (k : Int) < st ∧ ScK ce kp N k := by
  obtain ⟨t, h1, h2, h3, h4⟩ := h
  rcases h4 with w | w
  · exact ⟨⟨t, h1, h2, h3, hf⟩, fun ⟨k, a, b⟩ => w.2 k a b⟩
  · exact absurd hf w.1
theorem SlR_n {sl kp ce : Nat → Int32} {m r : Int32} {N st : Int} (h : SlR sl kp ce m N st r) (hf : ¬ (sl r.toNatClampNeg).toInt = -9) : ∃ k : Nat, (k : Int) < st ∧ ScK ce kp N k := by
  obtain ⟨t, h1, h2, h3, h4⟩ := h
  rcases h4 with w | w
  · exact absurd w.1 hf
  · exact w.2
theorem ScK_s {ce kp : Nat → Int32} {k : Nat} {x y : Int32} (h : ScK ce kp x.toInt k) (h0 : 0 ≤ x.toInt) (ey : y.toInt = x.toInt + 1) (e : kp (30 * k + x.toInt.toNat) = ce x.toInt.toNat) : ScK ce kp y.toInt k := fun o ho => by
  by_cases q : o = x.toInt.toNat
  · rw [q]; exact e
  · exact h o (by omega)
theorem TaI_k {ce kp : Nat → Int32} {st st2 sp dp nn : Int32} {N : Int} (h : TaI ce kp st.toInt N) (h0 : 0 ≤ st.toInt) (e2 : st2.toInt = st.toInt + 1) (es : sp.toInt = 0) (ed : dp.toInt = st.toInt * 30) (en : nn.toInt = 30) : TaI ce (va_cpy ce kp sp.toNatClampNeg dp.toNatClampNeg nn.toNatClampNeg) st2.toInt N := fun k hk o ho h30 => by
  have c1 : sp.toNatClampNeg = sp.toInt.toNat := rfl
  have c2 : dp.toNatClampNeg = dp.toInt.toNat := rfl
  have c3 : nn.toNatClampNeg = nn.toInt.toNat := rfl
  unfold va_cpy
  by_cases q : (k : Int) = st.toInt
  · rw [if_pos (by omega), show sp.toNatClampNeg + (30 * k + o - dp.toNatClampNeg) = o by omega]
  · rw [if_neg (by omega)]; exact h k (by omega) o ho h30
theorem TaI_u {ce kp : Nat → Int32} {st N : Int} {j : Nat} {v : Int32} (h : TaI ce kp st N) (hj : (j : Int) < N) : TaI (upd ce j v) kp st N := fun k hk o ho h30 => by rw [pk_un (by omega)]; exact h k hk o ho h30
theorem TaI_b {ce kp : Nat → Int32} {st N : Int} {j : Nat} {v : Int32} (h : TaI (upd ce j v) kp st N) (hj : (j : Int) < N) : TaI ce kp st N := fun k hk o ho h30 => by have := h k hk o ho h30; rw [pk_un (by omega)] at this; exact this

