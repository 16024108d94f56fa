/-! how much bulks may be -/
/-! sharing -/
def ceX (th : Int32) (a b : Nat → Int32) : Nat → Int32 := if th.toInt = 1 then a else b
theorem ceX_1 {th : Int32} {a b : Nat → Int32} (h : th.toInt = 1) : ceX th a b = a := if_pos h
theorem ceX_0 {th : Int32} {a b : Nat → Int32} (h : th.toInt = 0) : ceX th a b = b := if_neg (by omega)
def ntP (P : Prop) (a b : Int32) : Prop := (P ∧ b.toInt = 1) ∨ (¬ P ∧ b = a)
theorem or_1 {x a z : Int32} (e : x = a ||| z) (ha : 0 ≤ a.toInt ∧ a.toInt ≤ 1) (hz : z.toInt = 1) : x.toInt = 1 := by
  have hz : z = 1 := Int32.toInt_inj.mp (by rw [hz]; decide)
  subst e hz
  rcases b01 ha with rfl | rfl <;> decide
theorem or_0 {x a z : Int32} (e : x = a ||| z) (ha : 0 ≤ a.toInt ∧ a.toInt ≤ 1) (hz : z.toInt = 0) : x = a := by
  have hz : z = 0 := Int32.toInt_inj.mp (by rw [hz]; decide)
  subst e hz
  rcases b01 ha with rfl | rfl <;> decide
def drV (s : Int32) : Int32 := if s.toInt = 0 then 0 else 100 / s

/-! the trace: how many bodies began, and which -/
def nb (b : Int32) (s : Int32 × (Nat → Int32)) : Int32 × (Nat → Int32) := if s.1.toInt < 100 then (s.1 + 1, upd s.2 s.1.toNatClampNeg b) else s
theorem nb_y {b n : Int32} {t : Nat → Int32} (h : n.toInt < 100) : nb b (n, t) = (n + 1, upd t n.toNatClampNeg b) := if_pos h
theorem nb_z9 {b n : Int32} {t : Nat → Int32} (h : ¬ n.toInt < 100) : nb b (n, t) = (n, t) := if_neg h
def nbZ (z : Int) (s : Int32 × (Nat → Int32)) : Int32 × (Nat → Int32) := nb 1 (if z = 3 then nb 2 s else if z = 4 then nb 3 s else if z = 2 then nb 4 s else if z = 5 then nb 5 s else s)
theorem nbZ_3 {s : Int32 × (Nat → Int32)} {z : Int} (h : z = 3) : nbZ z s = nb 1 (nb 2 s) := by
  unfold nbZ; rw [if_pos h]
theorem nbZ_4 {s : Int32 × (Nat → Int32)} {z : Int} (h : z = 4) : nbZ z s = nb 1 (nb 3 s) := by
  unfold nbZ; rw [if_neg (by omega), if_pos h]
theorem nbZ_2 {s : Int32 × (Nat → Int32)} {z : Int} (h : z = 2) : nbZ z s = nb 1 (nb 4 s) := by
  unfold nbZ; rw [if_neg (by omega), if_neg (by omega), if_pos h]
theorem nbZ_5 {s : Int32 × (Nat → Int32)} {z : Int} (h : z = 5) : nbZ z s = nb 1 (nb 5 s) := by
  unfold nbZ; rw [if_neg (by omega), if_neg (by omega), if_neg (by omega), if_pos h]
theorem nbZ_o {s : Int32 × (Nat → Int32)} {z : Int} (h : ¬ (2 ≤ z ∧ z ≤ 5)) : nbZ z s = nb 1 s := by
  unfold nbZ; rw [if_neg (by omega), if_neg (by omega), if_neg (by omega), if_neg (by omega)]
theorem nbZ_b {z x y : Int32} {s : Int32 × (Nat → Int32)} (hz : 2 ≤ z.toInt ∧ z.toInt ≤ 5) (ex : x = bodV z.toNatClampNeg) (ey : y = bodV (1 : Int32).toNatClampNeg) : nb y (nb x s) = nbZ z.toInt s := by
  have ey : y = 1 := by rw [ey]; decide
  have q : z.toInt = 2 ∨ z.toInt = 3 ∨ z.toInt = 4 ∨ z.toInt = 5 := by omega
  have e : z.toNatClampNeg = z.toInt.toNat := rfl
  rw [e] at ex
  rcases q with q | q | q | q
  · rw [nbZ_2 q, ey, show x = 4 from by rw [ex, q]; decide]
  · rw [nbZ_3 q, ey, show x = 2 from by rw [ex, q]; decide]
  · rw [nbZ_4 q, ey, show x = 3 from by rw [ex, q]; decide]
  · rw [nbZ_5 q, ey, show x = 5 from by rw [ex, q]; decide]
theorem nbZ_q {z y : Int32} {s : Int32 × (Nat → Int32)} (hz : ¬ (2 ≤ z.toInt ∧ z.toInt ≤ 5)) (ey : y = bodV (1 : Int32).toNatClampNeg) : nb y s = nbZ z.toInt s := by
  have ey : y = 1 := by rw [ey]; decide
  rw [nbZ_o hz, ey]
def gS (F : Nat → Int32 × (Nat → Int32) → Int32 × (Nat → Int32)) : Nat → Int32 × (Nat → Int32) → Int32 × (Nat → Int32)
  | 0, s => s
  | n + 1, s => F n (gS F n s)
theorem gS_y {F : Nat → Int32 × (Nat → Int32) → Int32 × (Nat → Int32)} {x y : Int32} {s a b : Int32 × (Nat → Int32)} (h : a = gS F x.toInt.toNat s) (h0 : 0 ≤ x.toInt) (hy : y.toInt = x.toInt + 1) (hb : b = F x.toInt.toNat a) : b = gS F y.toInt.toNat s := by
  rw [show y.toInt.toNat = x.toInt.toNat + 1 by omega, hb, h]
  rfl
theorem gS_c {F G : Nat → Int32 × (Nat → Int32) → Int32 × (Nat → Int32)} : ∀ n : Nat, (∀ x, x < n → ∀ s, F x s = G x s) → ∀ s, gS F n s = gS G n s := by
  intro n
  induction n with
  | zero => intro _ s; rfl
  | succ n ih =>
    intro e s
    show F n (gS F n s) = G n (gS G n s)
    rw [ih (fun x hx => e x (by omega)), e n (by omega)]
theorem gS_i {F : Nat → Int32 × (Nat → Int32) → Int32 × (Nat → Int32)} : ∀ n : Nat, (∀ x, x < n → ∀ s, F x s = s) → ∀ s, gS F n s = s := by
  intro n
  induction n with
  | zero => intro _ s; rfl
  | succ n ih =>
    intro e s
    show F n (gS F n s) = s
    rw [e n (by omega), ih (fun x hx => e x (by omega))]
def trB (Z : Int → Int) (ls : Int → Int → Nat → Bool) (N : Nat) : Nat → Nat → Int32 × (Nat → Int32) → Int32 × (Nat → Int32)
  | 0, _, s => s
  | k + 1, o, s => if Z (o : Int) = 3 then gS (fun x a => if ls 0 (o : Int) x = true then trB Z ls N k x a else a) N (nbZ (Z (o : Int)) s) else if Z (o : Int) = 4 then gS (fun x a => if ls 1 (o : Int) x = true then trB Z ls N k x a else a) N (nbZ (Z (o : Int)) s) else nbZ (Z (o : Int)) s
theorem trB_3 {Z : Int → Int} {ls : Int → Int → Nat → Bool} {N k : Nat} {w : Int} {s : Int32 × (Nat → Int32)} (h : Z ((w.toNat : Nat) : Int) = 3) : trB Z ls N (k + 1) w.toNat s = gS (fun x a => if ls 0 ((w.toNat : Nat) : Int) x = true then trB Z ls N k x a else a) N (nbZ (Z ((w.toNat : Nat) : Int)) s) := if_pos h
theorem trB_4 {Z : Int → Int} {ls : Int → Int → Nat → Bool} {N k : Nat} {w : Int} {s : Int32 × (Nat → Int32)} (h : Z ((w.toNat : Nat) : Int) = 4) : trB Z ls N (k + 1) w.toNat s = gS (fun x a => if ls 1 ((w.toNat : Nat) : Int) x = true then trB Z ls N k x a else a) N (nbZ (Z ((w.toNat : Nat) : Int)) s) := by
  show (if _ then _ else _) = _
  rw [if_neg (by omega), if_pos h]
theorem trB_o {Z : Int → Int} {ls : Int → Int → Nat → Bool} {N k : Nat} {w : Int} {s : Int32 × (Nat → Int32)} (h3 : ¬ Z ((w.toNat : Nat) : Int) = 3) (h4 : ¬ Z ((w.toNat : Nat) : Int) = 4) : trB Z ls N (k + 1) w.toNat s = nbZ (Z ((w.toNat : Nat) : Int)) s := by
  show (if _ then _ else _) = _
  rw [if_neg h3, if_neg h4]
theorem trB_st {Z : Int → Int} {ls : Int → Int → Nat → Bool} {N : Nat} {rk : Int → Nat} (h29 : ∀ x, rk x ≤ 29) (hr : ∀ (g o : Int) (x : Nat), (g = 0 ∨ g = 1) → 0 ≤ o → x < N → ls g o x = true → rk o < rk (x : Int)) : ∀ (k j x : Nat), 30 ≤ k + rk (x : Int) → 30 ≤ j + rk (x : Int) → ∀ s, trB Z ls N k x s = trB Z ls N j x s := by
  intro k
  induction k with
  | zero => intro j x h _ s; exfalso; have := h29 (x : Int); omega
  | succ k ih =>
    intro j x h1 h2 s
    cases j with
    | zero => exfalso; have := h29 (x : Int); omega
    | succ j =>
      have e : ∀ g : Int, (g = 0 ∨ g = 1) → ∀ s, gS (fun y a => if ls g (x : Int) y = true then trB Z ls N k y a else a) N s = gS (fun y a => if ls g (x : Int) y = true then trB Z ls N j y a else a) N s := fun g hg => gS_c N (fun y hy a => by
        show (if ls g (x : Int) y = true then trB Z ls N k y a else a) = (if ls g (x : Int) y = true then trB Z ls N j y a else a)
        by_cases q : ls g (x : Int) y = true
        · rw [if_pos q, if_pos q]
          have w := hr g (x : Int) y hg (by omega) hy q
          exact ih j y (by omega) (by omega) a
        · rw [if_neg q, if_neg q])
      show (if _ then _ else _) = (if _ then _ else _)
      by_cases q3 : Z (x : Int) = 3
      · rw [if_pos q3, if_pos q3]; exact e 0 (Or.inl rfl) _
      · rw [if_neg q3, if_neg q3]
        by_cases q4 : Z (x : Int) = 4
        · rw [if_pos q4, if_pos q4]; exact e 1 (Or.inr rfl) _
        · rw [if_neg q4, if_neg q4]
def tU (F : Nat → Int32 × (Nat → Int32) → Int32 × (Nat → Int32)) : Nat → Nat → Int32 × (Nat → Int32) → Int32 × (Nat → Int32)
  | 0, _, s => s
  | k + 1, m, s => tU F k (m + 1) (F m s)
theorem tU_g {F : Nat → Int32 × (Nat → Int32) → Int32 × (Nat → Int32)} : ∀ (k m : Nat) (s : Int32 × (Nat → Int32)), tU F k m (gS F m s) = gS F (m + k) s := by
  intro k
  induction k with
  | zero => intro m s; rfl
  | succ k ih =>
    intro m s
    have e := ih (m + 1) s
    rw [show m + (k + 1) = m + 1 + k by omega, ← e]
    rfl
theorem tU_0 {F : Nat → Int32 × (Nat → Int32) → Int32 × (Nat → Int32)} {N : Nat} {s : Int32 × (Nat → Int32)} : gS F N s = tU F N 0 s := by
  have e := tU_g (F := F) N 0 s
  rw [Nat.zero_add] at e
  exact e.symm
def fB (Z : Int → Int) (ls : Int → Int → Nat → Bool) (W : Nat → Int32 × (Nat → Int32) → Int32 × (Nat → Int32)) (o : Int) (x : Nat) (s : Int32 × (Nat → Int32)) : Int32 × (Nat → Int32) := if chB Z ls o x = true then W x s else s
def tJ (Z : Int → Int) (ls : Int → Int → Nat → Bool) (W : Nat → Int32 × (Nat → Int32) → Int32 × (Nat → Int32)) (N : Nat) (o m : Int) (s : Int32 × (Nat → Int32)) : Int32 × (Nat → Int32) := tU (fB Z ls W o) (N - m.toNat) m.toNat s
theorem tJ_n {Z : Int → Int} {ls : Int → Int → Nat → Bool} {W : Nat → Int32 × (Nat → Int32) → Int32 × (Nat → Int32)} {N : Nat} {o : Int} {x y : Int32} {s : Int32 × (Nat → Int32)} (h0 : 0 ≤ x.toInt) (hN : x.toInt.toNat < N) (hy : y.toInt = x.toInt + 1) (hc : ¬ chB Z ls o x.toInt.toNat = true) : tJ Z ls W N o x.toInt s = tJ Z ls W N o y.toInt s := by
  unfold tJ
  rw [show N - x.toInt.toNat = (N - y.toInt.toNat) + 1 by omega, show y.toInt.toNat = x.toInt.toNat + 1 by omega]
  show tU _ _ _ (fB Z ls W o x.toInt.toNat s) = _
  rw [show fB Z ls W o x.toInt.toNat s = s from if_neg hc]
theorem tJ_y {Z : Int → Int} {ls : Int → Int → Nat → Bool} {W : Nat → Int32 × (Nat → Int32) → Int32 × (Nat → Int32)} {N : Nat} {o : Int} {x y : Int32} {s : Int32 × (Nat → Int32)} (h0 : 0 ≤ x.toInt) (hN : x.toInt.toNat < N) (hy : y.toInt = x.toInt + 1) (hc : chB Z ls o x.toInt.toNat = true) : tJ Z ls W N o x.toInt s = tJ Z ls W N o y.toInt (W x.toInt.toNat s) := by
  unfold tJ
  rw [show N - x.toInt.toNat = (N - y.toInt.toNat) + 1 by omega, show y.toInt.toNat = x.toInt.toNat + 1 by omega]
  show tU _ _ _ (fB Z ls W o x.toInt.toNat s) = _
  rw [show fB Z ls W o x.toInt.toNat s = W x.toInt.toNat s from if_pos hc]
theorem tJ_e {Z : Int → Int} {ls : Int → Int → Nat → Bool} {W : Nat → Int32 × (Nat → Int32) → Int32 × (Nat → Int32)} {N : Nat} {o m : Int} {s : Int32 × (Nat → Int32)} (h : (N : Int) ≤ m) : tJ Z ls W N o m s = s := by
  unfold tJ
  rw [show N - m.toNat = 0 by omega]
  rfl
theorem trB_w {Z : Int → Int} {ls : Int → Int → Nat → Bool} {N : Nat} {rk : Int → Nat} (h29 : ∀ x, rk x ≤ 29) (hr : ∀ (g o : Int) (x : Nat), (g = 0 ∨ g = 1) → 0 ≤ o → x < N → ls g o x = true → rk o < rk (x : Int)) {w : Int} (h0 : 0 ≤ w) (s : Int32 × (Nat → Int32)) : trB Z ls N 31 w.toNat s = tJ Z ls (trB Z ls N 31) N w 0 (nbZ (Z w) s) := by
  have ew : ((w.toNat : Nat) : Int) = w := by omega
  have e : ∀ g : Int, (g = 0 ∨ g = 1) → ∀ s, gS (fun y a => if ls g w y = true then trB Z ls N 30 y a else a) N s = gS (fun y a => if ls g w y = true then trB Z ls N 31 y a else a) N s := fun g hg => gS_c N (fun y hy a => by
    show (if ls g w y = true then trB Z ls N 30 y a else a) = (if ls g w y = true then trB Z ls N 31 y a else a)
    by_cases q : ls g w y = true
    · rw [if_pos q, if_pos q]
      have w1 := hr g w y hg h0 hy q
      exact trB_st h29 hr 30 31 y (by omega) (by omega) a
    · rw [if_neg q, if_neg q])
  unfold tJ
  show _ = tU (fB Z ls (trB Z ls N 31) w) (N - 0) 0 _
  rw [Nat.sub_zero, ← tU_0]
  by_cases q3 : Z w = 3
  · rw [trB_3 (k := 30) (by rw [ew]; exact q3), ew, e 0 (Or.inl rfl)]
    exact gS_c N (fun y _ a => by show (if ls 0 w y = true then _ else _) = fB Z ls (trB Z ls N 31) w y a; unfold fB chB; rw [if_pos q3]) _
  · by_cases q4 : Z w = 4
    · rw [trB_4 (k := 30) (by rw [ew]; exact q4), ew, e 1 (Or.inr rfl)]
      exact gS_c N (fun y _ a => by show (if ls 1 w y = true then _ else _) = fB Z ls (trB Z ls N 31) w y a; unfold fB chB; rw [if_neg q3, if_pos q4]) _
    · rw [trB_o (k := 30) (by rw [ew]; exact q3) (by rw [ew]; exact q4), ew]
      exact (gS_i N (fun y _ a => by unfold fB chB; rw [if_neg q3, if_neg q4, if_neg (by decide +kernel)]) _).symm
def tRm (Z : Int → Int) (ls : Int → Int → Nat → Bool) (W : Nat → Int32 × (Nat → Int32) → Int32 × (Nat → Int32)) (N : Nat) (pi nx : Nat → Int32) : Nat → Int32 × (Nat → Int32) → Int32 × (Nat → Int32)
  | 0, s => s
  | j + 1, s => tRm Z ls W N pi nx j (tJ Z ls W N (pi j).toInt (nx j).toInt s)
theorem tRm_u {Z : Int → Int} {ls : Int → Int → Nat → Bool} {W : Nat → Int32 × (Nat → Int32) → Int32 × (Nat → Int32)} {N : Nat} {pi nx pi2 nx2 : Nat → Int32} : ∀ (k : Nat), (∀ j : Nat, j < k → pi2 j = pi j ∧ nx2 j = nx j) → ∀ s, tRm Z ls W N pi2 nx2 k s = tRm Z ls W N pi nx k s := by
  intro k
  induction k with
  | zero => intro _ s; rfl
  | succ k ih =>
    intro h s
    show tRm Z ls W N pi2 nx2 k (tJ Z ls W N (pi2 k).toInt (nx2 k).toInt s) = tRm Z ls W N pi nx k (tJ Z ls W N (pi k).toInt (nx k).toInt s)
    rw [(h k (by omega)).1, (h k (by omega)).2, ih (fun j hj => h j (by omega))]
def tRem (Z : Int → Int) (ls : Int → Int → Nat → Bool) (W : Nat → Int32 × (Nat → Int32) → Int32 × (Nat → Int32)) (N : Nat) (pi nx : Nat → Int32) (d : Int) (s : Int32 × (Nat → Int32)) : Int32 × (Nat → Int32) := tRm Z ls W N pi nx (d + 1).toNat s
theorem tRem_0 {Z : Int → Int} {ls : Int → Int → Nat → Bool} {W : Nat → Int32 × (Nat → Int32) → Int32 × (Nat → Int32)} {N : Nat} {pi nx : Nat → Int32} {d : Int32} {o : Int} {s : Int32 × (Nat → Int32)} (hd : d.toInt = 0) (hp : (pi 0).toInt = o) (hn : (nx 0).toInt = 0) : tRem Z ls W N pi nx d.toInt s = tJ Z ls W N o 0 s := by
  unfold tRem
  rw [show (d.toInt + 1).toNat = 0 + 1 by omega]
  show tJ Z ls W N (pi 0).toInt (nx 0).toInt s = _
  rw [hp, hn]
theorem Tk_in {Z : Int → Int} {ls : Int → Int → Nat → Bool} {W : Nat → Int32 × (Nat → Int32) → Int32 × (Nat → Int32)} {N : Nat} {pi nx : Nat → Int32} {d d2 x y zr : Int32} {S S2 T : Int32 × (Nat → Int32)} (h : tRem Z ls W N pi nx d.toInt S = T) (h0 : 0 ≤ d.toInt) (hd : d2.toInt = d.toInt + 1) (hz : zr.toInt = 0) (hx0 : 0 ≤ x.toInt) (hN : x.toInt.toNat < N) (hy : y.toInt = x.toInt + 1) (he : tJ Z ls W N (pi d.toNatClampNeg).toInt (nx d.toNatClampNeg).toInt S = tJ Z ls W N (pi d.toNatClampNeg).toInt x.toInt S) (hc : chB Z ls (pi d.toNatClampNeg).toInt x.toInt.toNat = true) (hw : W x.toInt.toNat S = tJ Z ls W N x.toInt 0 S2) : tRem Z ls W N (upd pi d2.toNatClampNeg x) (upd (upd nx d.toNatClampNeg y) d2.toNatClampNeg zr) d2.toInt S2 = T := by
  have q1 : d.toNatClampNeg = d.toInt.toNat := rfl
  have q2 : d2.toNatClampNeg = d2.toInt.toNat := rfl
  unfold tRem at h ⊢
  rw [show (d.toInt + 1).toNat = d.toNatClampNeg + 1 by omega] at h
  rw [show (d2.toInt + 1).toNat = (d.toNatClampNeg + 1) + 1 by omega, show d2.toNatClampNeg = d.toNatClampNeg + 1 by omega]
  rw [← h]
  show tRm Z ls W N _ _ d.toNatClampNeg (tJ Z ls W N ((upd pi (d.toNatClampNeg + 1) x) d.toNatClampNeg).toInt ((upd (upd nx d.toNatClampNeg y) (d.toNatClampNeg + 1) zr) d.toNatClampNeg).toInt (tJ Z ls W N ((upd pi (d.toNatClampNeg + 1) x) (d.toNatClampNeg + 1)).toInt ((upd (upd nx d.toNatClampNeg y) (d.toNatClampNeg + 1) zr) (d.toNatClampNeg + 1)).toInt S2)) = tRm Z ls W N pi nx d.toNatClampNeg (tJ Z ls W N (pi d.toNatClampNeg).toInt (nx d.toNatClampNeg).toInt S)
  rw [he, tJ_y hx0 hN hy hc, hw, pk_us, pk_us, pk_un (show ¬ d.toNatClampNeg = d.toNatClampNeg + 1 by omega), pk_un (show ¬ d.toNatClampNeg = d.toNatClampNeg + 1 by omega), pk_us, hz]
  exact tRm_u _ (fun j hj => ⟨pk_un (by omega), by rw [pk_un (by omega), pk_un (by omega)]⟩) _
theorem Tk_out {Z : Int → Int} {ls : Int → Int → Nat → Bool} {W : Nat → Int32 × (Nat → Int32) → Int32 × (Nat → Int32)} {N : Nat} {pi nx : Nat → Int32} {d d2 x y : Int32} {S T : Int32 × (Nat → Int32)} (h : tRem Z ls W N pi nx d.toInt S = T) (h0 : 0 ≤ d.toInt) (hd : d2.toInt = d.toInt - 1) (hN : (N : Int) ≤ x.toInt) (he : tJ Z ls W N (pi d.toNatClampNeg).toInt (nx d.toNatClampNeg).toInt S = tJ Z ls W N (pi d.toNatClampNeg).toInt x.toInt S) : tRem Z ls W N pi (upd nx d.toNatClampNeg y) d2.toInt S = T := by
  have q1 : d.toNatClampNeg = d.toInt.toNat := rfl
  unfold tRem at h ⊢
  rw [show (d.toInt + 1).toNat = d.toNatClampNeg + 1 by omega] at h
  rw [show (d2.toInt + 1).toNat = d.toNatClampNeg by omega, ← h]
  show _ = tRm Z ls W N pi nx d.toNatClampNeg (tJ Z ls W N (pi d.toNatClampNeg).toInt (nx d.toNatClampNeg).toInt S)
  rw [he, tJ_e hN]
  exact tRm_u _ (fun j hj => ⟨rfl, pk_un (by omega)⟩) _
theorem Tk_end {Z : Int → Int} {ls : Int → Int → Nat → Bool} {W : Nat → Int32 × (Nat → Int32) → Int32 × (Nat → Int32)} {N : Nat} {pi nx : Nat → Int32} {d : Int32} {S T : Int32 × (Nat → Int32)} (h : tRem Z ls W N pi nx d.toInt S = T) (hd : d.toInt < 0) : S = T := by
  unfold tRem at h
  rw [show (d.toInt + 1).toNat = 0 by omega] at h
  exact h
def TrW (P Q : Prop) (s0 s1 s2 s : Int32 × (Nat → Int32)) : Prop := (¬ P ∧ s = s0) ∨ (P ∧ Q ∧ s = s1) ∨ (P ∧ ¬ Q ∧ s = s2)

