/-! how much bulks may be -/
def sumZ (g : Nat → Int) : Nat → Int
  | 0 => 0
  | n + 1 => sumZ g n + g n
theorem sumZ_n {g : Nat → Int} : ∀ n : Nat, (∀ x, x < n → 0 ≤ g x) → 0 ≤ sumZ g n := by
  intro n
  induction n with
  | zero => intro _; exact Int.le_refl _
  | succ n ih =>
    intro h
    have a := ih (fun x hx => h x (by omega))
    have b := h n (by omega)
    show 0 ≤ sumZ g n + g n
    omega
theorem sumZ_m {f g : Nat → Int} : ∀ n : Nat, (∀ x, x < n → f x ≤ g x) → sumZ f n ≤ sumZ g n := by
  intro n
  induction n with
  | zero => intro _; exact Int.le_refl _
  | succ n ih =>
    intro h
    have a := ih (fun x hx => h x (by omega))
    have b := h n (by omega)
    show sumZ f n + f n ≤ sumZ g n + g n
    omega
theorem sumZ_c {f g : Nat → Int} : ∀ n : Nat, (∀ x, x < n → f x = g x) → sumZ f n = sumZ g n := by
  intro n
  induction n with
  | zero => intro _; rfl
  | succ n ih =>
    intro h
    show sumZ f n + f n = sumZ g n + g n
    rw [ih (fun x hx => h x (by omega)), h n (by omega)]
theorem sumZ_z {g : Nat → Int} : ∀ n : Nat, (∀ x, x < n → g x = 0) → sumZ g n = 0 := by
  intro n
  induction n with
  | zero => intro _; rfl
  | succ n ih =>
    intro h
    show sumZ g n + g n = 0
    rw [ih (fun x hx => h x (by omega)), h n (by omega)]
    rfl
theorem sumZ_a {f g : Nat → Int} : ∀ n : Nat, sumZ (fun x => f x + g x) n = sumZ f n + sumZ g n := by
  intro n
  induction n with
  | zero => rfl
  | succ n ih =>
    show sumZ (fun x => f x + g x) n + (f n + g n) = (sumZ f n + f n) + (sumZ g n + g n)
    rw [ih]
    omega
theorem sumZ_x {a : Nat → Nat → Int} {M : Nat} : ∀ N : Nat, sumZ (fun o => sumZ (fun x => a o x) M) N = sumZ (fun x => sumZ (fun o => a o x) N) M := by
  intro N
  induction N with
  | zero => exact (sumZ_z (g := fun x => sumZ (fun o => a o x) 0) M (fun x _ => rfl)).symm
  | succ N ih =>
    have e := sumZ_a (f := fun x => sumZ (fun o => a o x) N) (g := fun x => a N x) M
    show sumZ (fun o => sumZ (fun x => a o x) M) N + sumZ (fun x => a N x) M = sumZ (fun x => sumZ (fun o => a o x) N + a N x) M
    rw [ih]
    exact e.symm
theorem sumZ_1 {b : Nat → Bool} {w : Int} (hw : 0 ≤ w) : ∀ n : Nat, (∀ x y, x < n → y < n → b x = true → b y = true → x = y) → sumZ (fun x => if b x = true then w else 0) n ≤ w := by
  intro n
  induction n with
  | zero => intro _; exact hw
  | succ n ih =>
    intro h
    show sumZ (fun x => if b x = true then w else 0) n + (if b n = true then w else 0) ≤ w
    by_cases q : b n = true
    · rw [if_pos q, sumZ_z n (fun x hx => if_neg (fun z => by have := h x n (by omega) (by omega) z q; omega))]
      omega
    · rw [if_neg q]
      have := ih (fun x y hx hy => h x y (by omega) (by omega))
      omega
theorem sumZ_s {g : Nat → Int} : ∀ n : Nat, (∀ x, x < n → 0 ≤ g x) → ∀ x, x < n → g x ≤ sumZ g n := by
  intro n
  induction n with
  | zero => intro _ x hx; omega
  | succ n ih =>
    intro h x hx
    have a := sumZ_n n (fun x hx => h x (by omega))
    have b := h n (by omega)
    show g x ≤ sumZ g n + g n
    by_cases q : x = n
    · subst q; omega
    · have := ih (fun x hx => h x (by omega)) x (by omega)
      omega
theorem sumZ_k {g : Nat → Int} : ∀ n : Nat, (∀ x, x < n → g x ≤ 198) → sumZ g n ≤ 198 * (n : Int) := by
  intro n
  induction n with
  | zero => intro _; exact Int.le_refl _
  | succ n ih =>
    intro h
    have a := ih (fun x hx => h x (by omega))
    have b := h n (by omega)
    show sumZ g n + g n ≤ 198 * ((n + 1 : Nat) : Int)
    omega
def wI (Z : Int → Int) (sz : Nat → Int32) (ls : Int → Int → Nat → Bool) (N : Nat) : Nat → Nat → Int
  | 0, _ => 0
  | k + 1, o => if Z (o : Int) = 3 then (sz o).toInt + sumZ (fun x => if ls 0 (o : Int) x = true then wI Z sz ls N k x else 0) N else if Z (o : Int) = 4 then (sz o).toInt + sumZ (fun x => if ls 1 (o : Int) x = true then wI Z sz ls N k x else 0) N else if Z (o : Int) = 5 then 2 * (sz o).toInt else (sz o).toInt
theorem wI_3 {Z : Int → Int} {sz : Nat → Int32} {ls : Int → Int → Nat → Bool} {N k o : Nat} (h : Z (o : Int) = 3) : wI Z sz ls N (k + 1) o = (sz o).toInt + sumZ (fun x => if ls 0 (o : Int) x = true then wI Z sz ls N k x else 0) N := if_pos h
theorem wI_4 {Z : Int → Int} {sz : Nat → Int32} {ls : Int → Int → Nat → Bool} {N k o : Nat} (h : Z (o : Int) = 4) : wI Z sz ls N (k + 1) o = (sz o).toInt + sumZ (fun x => if ls 1 (o : Int) x = true then wI Z sz ls N k x else 0) N := by
  show (if _ then _ else _) = _
  rw [if_neg (by omega), if_pos h]
theorem wI_5 {Z : Int → Int} {sz : Nat → Int32} {ls : Int → Int → Nat → Bool} {N k o : Nat} (h : Z (o : Int) = 5) : wI Z sz ls N (k + 1) o = 2 * (sz o).toInt := by
  show (if _ then _ else _) = _
  rw [if_neg (by omega), if_neg (by omega), if_pos h]
theorem wI_r {Z : Int → Int} {sz : Nat → Int32} {ls : Int → Int → Nat → Bool} {N k o : Nat} (h3 : ¬ Z (o : Int) = 3) (h4 : ¬ Z (o : Int) = 4) (h5 : ¬ Z (o : Int) = 5) : wI Z sz ls N (k + 1) o = (sz o).toInt := by
  show (if _ then _ else _) = _
  rw [if_neg h3, if_neg h4, if_neg h5]
theorem wI_n {Z : Int → Int} {sz : Nat → Int32} {ls : Int → Int → Nat → Bool} {N k : Nat} (ih : ∀ x, x < N → 0 ≤ wI Z sz ls N k x) (g : Int) (o : Nat) : 0 ≤ sumZ (fun x => if ls g (o : Int) x = true then wI Z sz ls N k x else 0) N := by
  refine sumZ_n N (fun x hx => ?_)
  show 0 ≤ (if ls g (o : Int) x = true then wI Z sz ls N k x else 0)
  by_cases q : ls g (o : Int) x = true
  · rw [if_pos q]; exact ih x hx
  · rw [if_neg q]; exact Int.le_refl _
theorem wI_p {Z : Int → Int} {sz : Nat → Int32} {ls : Int → Int → Nat → Bool} {N : Nat} (hs : ∀ x, x < N → 0 ≤ (sz x).toInt ∧ (sz x).toInt ≤ 99) : ∀ (k o : Nat), o < N → 0 ≤ wI Z sz ls N k o := by
  intro k
  induction k with
  | zero => intro o _; exact Int.le_refl _
  | succ k ih =>
    intro o ho
    have s := hs o ho
    have e := wI_n (Z := Z) (sz := sz) (ls := ls) ih
    by_cases q3 : Z (o : Int) = 3
    · rw [wI_3 q3]; have := e 0 o; omega
    by_cases q4 : Z (o : Int) = 4
    · rw [wI_4 q4]; have := e 1 o; omega
    by_cases q5 : Z (o : Int) = 5
    · rw [wI_5 q5]; omega
    · rw [wI_r q3 q4 q5]; omega
theorem wI_u {Z : Int → Int} {sz : Nat → Int32} {ls : Int → Int → Nat → Bool} {N k o : Nat} (hs : ∀ x, x < N → 0 ≤ (sz x).toInt ∧ (sz x).toInt ≤ 99) (ho : o < N) : wI Z sz ls N (k + 1) o ≤ 2 * (sz o).toInt + sumZ (fun x => if chB Z ls (o : Int) x = true then wI Z sz ls N k x else 0) N := by
  have s := hs o ho
  by_cases q3 : Z (o : Int) = 3
  · rw [wI_3 q3, sumZ_c (f := fun x => if chB Z ls (o : Int) x = true then wI Z sz ls N k x else 0) (g := fun x => if ls 0 (o : Int) x = true then wI Z sz ls N k x else 0) N (fun x _ => by unfold chB; rw [if_pos q3])]
    omega
  by_cases q4 : Z (o : Int) = 4
  · rw [wI_4 q4, sumZ_c (f := fun x => if chB Z ls (o : Int) x = true then wI Z sz ls N k x else 0) (g := fun x => if ls 1 (o : Int) x = true then wI Z sz ls N k x else 0) N (fun x _ => by unfold chB; rw [if_neg q3, if_pos q4])]
    omega
  have p : 0 ≤ sumZ (fun x => if chB Z ls (o : Int) x = true then wI Z sz ls N k x else 0) N := sumZ_n N (fun x hx => by
    show 0 ≤ (if chB Z ls (o : Int) x = true then wI Z sz ls N k x else 0)
    by_cases q : chB Z ls (o : Int) x = true
    · rw [if_pos q]; exact wI_p hs k x hx
    · rw [if_neg q]; exact Int.le_refl _)
  by_cases q5 : Z (o : Int) = 5
  · rw [wI_5 q5]; omega
  · rw [wI_r q3 q4 q5]; omega
theorem wI_b {Z : Int → Int} {sz : Nat → Int32} {ls : Int → Int → Nat → Bool} {N : Nat} (hs : ∀ x, x < N → 0 ≤ (sz x).toInt ∧ (sz x).toInt ≤ 99) (hN : N ≤ 30) (hu : ∀ x, x < N → ∀ o p : Nat, o < N → p < N → chB Z ls (o : Int) x = true → chB Z ls (p : Int) x = true → o = p) : ∀ k : Nat, sumZ (wI Z sz ls N k) N ≤ 5940 * (k : Int) := by
  intro k
  induction k with
  | zero => rw [sumZ_z (g := wI Z sz ls N 0) N (fun x _ => rfl)]; exact Int.le_refl _
  | succ k ih =>
    have a := sumZ_m (f := wI Z sz ls N (k + 1)) (g := fun o => 2 * (sz o).toInt + sumZ (fun x => if chB Z ls (o : Int) x = true then wI Z sz ls N k x else 0) N) N (fun o ho => wI_u hs ho)
    have b := sumZ_a (f := fun o => 2 * (sz o).toInt) (g := fun o : Nat => sumZ (fun x => if chB Z ls (o : Int) x = true then wI Z sz ls N k x else 0) N) N
    have c := sumZ_x (a := fun (o x : Nat) => if chB Z ls (o : Int) x = true then wI Z sz ls N k x else 0) (M := N) N
    have d := sumZ_m (f := fun x => sumZ (fun o : Nat => if chB Z ls (o : Int) x = true then wI Z sz ls N k x else 0) N) (g := wI Z sz ls N k) N (fun x hx => sumZ_1 (b := fun o : Nat => chB Z ls (o : Int) x) (w := wI Z sz ls N k x) (wI_p hs k x hx) N (fun o p ho hp => hu x hx o p ho hp))
    have e := sumZ_k (g := fun o => 2 * (sz o).toInt) N (fun x hx => by have := hs x hx; show 2 * (sz x).toInt ≤ 198; omega)
    rw [b, c] at a
    omega
theorem sumI_Z {g : Nat → Int32} {f : Nat → Int} : ∀ n : Nat, (∀ x, x < n → (g x).toInt = f x ∧ 0 ≤ f x) → sumZ f n ≤ 1000000 → (sumI g n).toInt = sumZ f n := by
  intro n
  induction n with
  | zero => intro _ _; show (0 : Int32).toInt = 0; decide
  | succ n ih =>
    intro h hb
    have a := h n (by omega)
    have p := sumZ_n n (fun x hx => (h x (by omega)).2)
    have hb : sumZ f n + f n ≤ 1000000 := hb
    have e := ih (fun x hx => h x (by omega)) (by omega)
    show (sumI g n + g n).toInt = sumZ f n + f n
    exact ti_add rfl e a.1 (by omega) (by omega)
def sumL (g : Nat → Int32) : Nat → Int64
  | 0 => 0
  | n + 1 => sumL g n + (g n).toInt64
theorem sumL_Z {g : Nat → Int32} {f : Nat → Int} : ∀ n : Nat, (∀ x, x < n → (g x).toInt = f x ∧ 0 ≤ f x) → sumZ f n ≤ 1000000 → (sumL g n).toInt = sumZ f n := by
  intro n
  induction n with
  | zero => intro _ _; show (0 : Int64).toInt = 0; decide
  | succ n ih =>
    intro h hb
    have a := h n (by omega)
    have p := sumZ_n n (fun x hx => (h x (by omega)).2)
    have hb : sumZ f n + f n ≤ 1000000 := hb
    have e := ih (fun x hx => h x (by omega)) (by omega)
    show (sumL g n + (g n).toInt64).toInt = sumZ f n + f n
    exact ti_addl rfl e ((Int32.toInt_toInt64 _).trans a.1) (by omega) (by omega)
theorem sumL_y {g : Nat → Int32} {x y r : Int32} {s s2 : Int64} (h : s = sumL g x.toInt.toNat) (h0 : 0 ≤ x.toInt) (hy : y.toInt = x.toInt + 1) (hg : g x.toInt.toNat = r) (hs : s2 = s + r.toInt64) : s2 = sumL g y.toInt.toNat := by
  rw [show y.toInt.toNat = x.toInt.toNat + 1 by omega, hs, h, ← hg]
  rfl
theorem sumL_n {g : Nat → Int32} {x y : Int32} {s s2 : Int64} (h : s = sumL g x.toInt.toNat) (h0 : 0 ≤ x.toInt) (hy : y.toInt = x.toInt + 1) (hg : g x.toInt.toNat = 0) (hs : s2 = s + 0) : s2 = sumL g y.toInt.toNat := by
  rw [show y.toInt.toNat = x.toInt.toNat + 1 by omega, hs, h]
  show sumL g x.toInt.toNat + 0 = sumL g x.toInt.toNat + (g x.toInt.toNat).toInt64
  rw [hg]
  rfl
theorem wtB_I {Z : Int → Int} {sz : Nat → Int32} {ls : Int → Int → Nat → Bool} {N : Nat} (hs : ∀ x, x < N → 0 ≤ (sz x).toInt ∧ (sz x).toInt ≤ 99) (hN : N ≤ 30) (hu : ∀ x, x < N → ∀ o p : Nat, o < N → p < N → chB Z ls (o : Int) x = true → chB Z ls (p : Int) x = true → o = p) (hd : ∀ (g : Int) (o x : Nat), (g = 0 ∨ g = 1) → x < N → ls g (o : Int) x = true → ¬ Z (x : Int) = 2) : ∀ k : Nat, k ≤ 31 → ∀ o : Nat, o < N → ¬ Z (o : Int) = 2 → (wtB Z sz ls N k o).toInt = wI Z sz ls N k o := by
  intro k
  induction k with
  | zero => intro _ o _ _; show (0 : Int32).toInt = 0; decide
  | succ k ih =>
    intro hk o ho hz
    have s := hs o ho
    have B := wI_b (Z := Z) (ls := ls) hs hN hu (k + 1)
    have P := wI_p (Z := Z) (ls := ls) hs
    have b1 := sumZ_s (g := wI Z sz ls N (k + 1)) N (fun x hx => P (k + 1) x hx) o ho
    have nn := wI_n (Z := Z) (sz := sz) (ls := ls) (k := k) (P k)
    have E : ∀ g : Int, (g = 0 ∨ g = 1) → sumZ (fun x => if ls g (o : Int) x = true then wI Z sz ls N k x else 0) N ≤ 1000000 → (sumI (fun x => if ls g (o : Int) x = true then wtB Z sz ls N k x else 0) N).toInt = sumZ (fun x => if ls g (o : Int) x = true then wI Z sz ls N k x else 0) N := fun g hg => sumI_Z N (fun x hx => by
      show (if ls g (o : Int) x = true then wtB Z sz ls N k x else 0).toInt = (if ls g (o : Int) x = true then wI Z sz ls N k x else 0) ∧ 0 ≤ (if ls g (o : Int) x = true then wI Z sz ls N k x else 0)
      by_cases q : ls g (o : Int) x = true
      · rw [if_pos q, if_pos q]; exact ⟨ih (by omega) x hx (hd g o x hg hx q), P k x hx⟩
      · rw [if_neg q, if_neg q]; exact ⟨by decide, Int.le_refl _⟩)
    by_cases q3 : Z (o : Int) = 3
    · have w3 : wtB Z sz ls N (k + 1) o = sz o + sumI (fun x => if ls 0 (o : Int) x = true then wtB Z sz ls N k x else 0) N := if_pos q3
      have n0 := nn 0 o
      rw [wI_3 q3] at b1
      rw [wI_3 q3]
      exact ti_add w3 rfl (E 0 (Or.inl rfl) (by omega)) (by omega) (by omega)
    by_cases q4 : Z (o : Int) = 4
    · have w4 : wtB Z sz ls N (k + 1) o = sz o + sumI (fun x => if ls 1 (o : Int) x = true then wtB Z sz ls N k x else 0) N := by
        show (if _ then _ else _) = _
        rw [if_neg q3, if_pos q4]
      have n0 := nn 1 o
      rw [wI_4 q4] at b1
      rw [wI_4 q4]
      exact ti_add w4 rfl (E 1 (Or.inr rfl) (by omega)) (by omega) (by omega)
    by_cases q5 : Z (o : Int) = 5
    · have w5 : wtB Z sz ls N (k + 1) o = 2 * sz o := by
        show (if _ then _ else _) = _
        rw [if_neg q3, if_neg q4, if_neg hz, if_pos q5]
      rw [wI_5 q5]
      exact ti_mul w5 (by decide +kernel) rfl (by omega) (by omega)
    · have w6 : wtB Z sz ls N (k + 1) o = sz o := by
        show (if _ then _ else _) = _
        rw [if_neg q3, if_neg q4, if_neg hz, if_neg q5]
      rw [wI_r q3 q4 q5, w6]
theorem dr_p {s : Int32} (h : 0 ≤ s.toInt ∧ s.toInt ≤ 99) (h0 : ¬ s.toInt = 0) : 0 ≤ (100 / s).toInt := by
  have k : ∀ k : Nat, k < 100 → 1 ≤ k → 0 ≤ ((100 : Int32) / nI k).toInt := by decide +kernel
  rw [x_n h.1]
  exact k _ (by omega) (by omega)
/-! sharing -/
def ShR (P Q R : Prop) (r : Int) : Prop := (¬ P ∧ r = -1) ∨ (P ∧ Q ∧ r = -3) ∨ (P ∧ ¬ Q ∧ R ∧ r = -3) ∨ (P ∧ ¬ Q ∧ ¬ R ∧ r = 1)
theorem ShR_e {P Q R P2 Q2 R2 : Prop} {r r2 : Int32} (h : ShR P Q R r.toInt) (h2 : ShR P2 Q2 R2 r2.toInt) (eP : P ↔ P2) (eQ : P → (Q ↔ Q2)) (eR : P → ¬ Q → (R ↔ R2)) : r = r2 := by
  apply Int32.toInt_inj.mp
  rcases h with ⟨a, e⟩ | ⟨a, b, e⟩ | ⟨a, b, d, e⟩ | ⟨a, b, d, e⟩
  · rcases h2 with ⟨_, e2⟩ | ⟨x, _⟩ | ⟨x, _⟩ | ⟨x, _⟩
    · rw [e, e2]
    all_goals exact absurd (eP.mpr x) a
  · rcases h2 with ⟨x, _⟩ | ⟨_, _, e2⟩ | ⟨_, y, _⟩ | ⟨_, y, _⟩
    · exact absurd (eP.mp a) x
    · rw [e, e2]
    all_goals exact absurd ((eQ a).mp b) y
  · rcases h2 with ⟨x, _⟩ | ⟨_, y, _⟩ | ⟨_, _, _, e2⟩ | ⟨_, _, z, _⟩
    · exact absurd (eP.mp a) x
    · exact absurd ((eQ a).mpr y) b
    · rw [e, e2]
    · exact absurd ((eR a b).mp d) z
  · rcases h2 with ⟨x, _⟩ | ⟨_, y, _⟩ | ⟨_, _, z, _⟩ | ⟨_, _, _, e2⟩
    · exact absurd (eP.mp a) x
    · exact absurd ((eQ a).mpr y) b
    · exact absurd ((eR a b).mpr z) d
    · rw [e, e2]
def ceX (th : Int32) (a b : Nat → Int32) : Nat → Int32 := if th.toInt = 1 then a else b
theorem ceX_1 {th : Int32} {a b : Nat → Int32} (h : th.toInt = 1) : ceX th a b = a := if_pos h
theorem ceX_0 {th : Int32} {a b : Nat → Int32} (h : th.toInt = 0) : ceX th a b = b := if_neg (by omega)
def ntP (P : Prop) (a b : Int32) : Prop := (P ∧ b.toInt = 1) ∨ (¬ P ∧ b = a)
theorem or_1 {x a z : Int32} (e : x = a ||| z) (ha : 0 ≤ a.toInt ∧ a.toInt ≤ 1) (hz : z.toInt = 1) : x.toInt = 1 := by
  have hz : z = 1 := Int32.toInt_inj.mp (by rw [hz]; decide)
  subst e hz
  rcases b01 ha with rfl | rfl <;> decide
theorem or_0 {x a z : Int32} (e : x = a ||| z) (ha : 0 ≤ a.toInt ∧ a.toInt ≤ 1) (hz : z.toInt = 0) : x = a := by
  have hz : z = 0 := Int32.toInt_inj.mp (by rw [hz]; decide)
  subst e hz
  rcases b01 ha with rfl | rfl <;> decide
def drV (s : Int32) : Int32 := if s.toInt = 0 then 0 else 100 / s

set_option maxHeartbeats 4000000 in
set_option maxRecDepth 100000 in
theorem s_X12_isSide_t (l : Launch) (D : va_G) (sz : Nat) (o : Nat) (a : Nat → Nat) (t : Nat → ClassId) (i : Nat → Int32) (q : Int64) (c : Nat → Nat → Int32) (d : Nat → Nat → Int64) (w : Int32) (r1 : Int32) (hI : mInv i c) : Met l yX12_isSide wm_X12_isSide ({ frames := 0, cells := 0, slots := 0, locals := 0 }) (va_Pc [.ref o, .int w, .int r1] (pA D sz (mW o a t i q c d) (mT t))) (va_Qi (fun (r : Int32) (_ : Unit) => ((0 ≤ r.toInt ∧ r.toInt ≤ 1) ∧ (Sm r (∃ s : Nat, (s : Int) < (i 8).toInt ∧ sdP (c 9) (c 10) (c 11) (c 13) w.toInt r1.toInt s)))) oA (ro sz)) 0 0 (ro sz) := by
  refine Met.ofW (cc := cX12_isSide) (maxL := 4) (ret := (some .boolean)) (by decide +kernel) rfl ?_
  intro p e s m args below meth cd s₁ B hml hv
  obtain ⟨rfl, hsz, hP, hK⟩ := hv
  have hx := B.exec
  have hb := B.bytes
  have hr := B.returns
  have hts := atoms_spec (ws := wm_X12_isSide) B.pre
  have hown : s.vm.findClass RX12 = some m.cls := findClass_of_methodNamed B.named
  have hlocks := B.notSynchronized
  subst hsz
  have hA : ∀ q : Nat, s.heap.size ≤ q → ro s.heap.size q := fun _ h => h
  have hS : va_S (ro s.heap.size) s.heap s.heap [] := va_S.rf
  have hl := lv_entry ([.ref o, .int w, .int r1]) (n := 4) (Nat.le_of_ble_eq_true rfl)
  rw [lg_entry_eq]
  generalize (lg_sl ([.ref o, .int w, .int r1]) ++ List.replicate (4 - (lg_sl ([.ref o, .int w, .int r1])).length) Slot.unset).toArray = ls at hl ⊢
  have hl : lv_has ls 4 [(0, .ref o), (1, .int w), (2, .int r1)] := hl
  have rb8_i : 0 ≤ (i 8).toInt ∧ (i 8).toInt ≤ 200 := hI.1 8
  refine lv_iconst (v := 0) hx hb dX12_isSide_0 (by decide +kernel) ?_
  refine lv_istore_n (lv' := [(3, .int 0), (0, .ref o), (1, .int w), (2, .int r1)]) hx hb dX12_isSide_1 rfl hl (by decide +kernel) rfl (fun ls hl => ?_)
  have lp1 : ∀ (fu : Nat) (y1_3 : Int32), (0 ≤ y1_3.toInt ∧ y1_3.toInt ≤ 200) → (∀ s : Nat, (s : Int) < y1_3.toInt → ¬ sdP (c 9) (c 10) (c 11) (c 13) w.toInt r1.toInt s) → (200 - y1_3.toInt).toNat < fu → ∀ (H : Heap) (locs : List Loc) (ls : Array Slot), va_P D vwCl (mW o a t i q c d) H → va_S (ro s.heap.size) s.heap H locs → lv_has ls 4 [(3, .int y1_3), (0, .ref o), (1, .int w), (2, .int r1)] → W p l e (headSpec wm_X12_isSide ({ frames := 0, cells := 0, slots := 0, locals := 0 })).room s m ([.ref o, .int w, .int r1] : List Value).toArray below meth cd H locs 0 0 (MQ below (va_Qi (fun (r : Int32) (_ : Unit) => ((0 ≤ r.toInt ∧ r.toInt ≤ 1) ∧ (Sm r (∃ s : Nat, (s : Int) < (i 8).toInt ∧ sdP (c 9) (c 10) (c 11) (c 13) w.toInt r1.toInt s)))) oA (ro s.heap.size)) ([.ref o, .int w, .int r1] : List Value).toArray s 0 0 (ro s.heap.size)) (F0 m 2 ls []) := by
    intro fu
    induction fu with
    | zero => intro y1_3 hy1_3 hz1_0 hm; exact absurd hm (Nat.not_lt_zero _)
    | succ fu ih =>
      intro y1_3 hy1_3 hz1_0 hm H locs ls hP hS hl
      have ih1 := ih
      refine lv_iload_n hx hb dX12_isSide_2 rfl (lv_at hl 0 rfl) ?_
      refine lv_aload_n hx hb dX12_isSide_3 rfl (lv_at hl 1 rfl) ?_
      refine mget_8 (v := (i 8)) rfl hx hb hts (fun _ h => List.mem_cons_of_mem _ (List.mem_append_right _ h)) hown hK hP (hts (.fieldLink RX12 202 "TalePlayModel" "sentences" "I") (List.mem_cons_of_mem _ (List.mem_append_left _ (List.mem_of_getElem? (i := 0) rfl)))) dX12_isSide_4 ?_
      refine lv_icmp_ge (tgt := 57) hx hb dX12_isSide_7 (by decide +kernel) (fun c2 => ?_) (fun c2 => ?_)
      · have f2 := (ti_le (a := (i 8).toInt) (b := y1_3.toInt) rfl rfl).mp c2
        refine lv_iconst (v := 0) hx hb dX12_isSide_57 (by decide +kernel) ?_
        exact ro_zret hx hb hr hlocks hS rfl dX12_isSide_58 ⟨(show 0 ≤ (0 : Int32).toInt ∧ (0 : Int32).toInt ≤ 1 from by have h9 : (0 : Int32).toInt = 0 := (by decide +kernel); omega), (show Sm (0 : Int32) (∃ s : Nat, (s : Int) < (i 8).toInt ∧ sdP (c 9) (c 10) (c 11) (c 13) w.toInt r1.toInt s) from sm_0 (fun h9 => by obtain ⟨s9, h8, h7⟩ := h9; exact hz1_0 s9 (by omega) h7))⟩
      · have f2 := mt (ti_le (a := (i 8).toInt) (b := y1_3.toInt) rfl rfl).mpr c2
        refine lv_aload_n hx hb dX12_isSide_10 rfl (lv_at hl 1 rfl) ?_
        refine mget_13 hx hb hts (fun _ h => List.mem_cons_of_mem _ (List.mem_append_right _ h)) hown hK hP (hts (.fieldLink RX12 37 "TalePlayModel" "isSaid" "[Z") (List.mem_cons_of_mem _ (List.mem_append_left _ (List.mem_of_getElem? (i := 1) rfl)))) dX12_isSide_11 ?_
        refine lv_iload_n hx hb dX12_isSide_14 rfl (lv_at hl 0 rfl) ?_
        refine mld_13 hx hb hK hP (vp_in_iff.mpr (by have h9 : y1_3.toInt = y1_3.toInt := rfl; omega)) dX12_isSide_15 (fun x3 ex3 => ?_)
        have rx3 : 0 ≤ x3.toInt ∧ x3.toInt ≤ 1 := by rw [ex3]; exact hI.2 13 _
        have gx3 : (c 13 (y1_3 : Int32).toNatClampNeg).toInt = x3.toInt := by rw [ex3]
        refine lv_if_eq (tgt := 51) hx hb dX12_isSide_16 (by decide +kernel) (fun c4 => ?_) (fun c4 => ?_)
        · have f4 := (ti_eq (a := x3.toInt) (b := 0) rfl (by decide +kernel)).mp c4
          obtain ⟨x5, ex5⟩ : ∃ y : Int32, y = y1_3 + 1 := ⟨_, rfl⟩
          have tx5 := ti_add (a := y1_3.toInt) (b := 1) ex5 rfl (by decide +kernel) (by omega) (by omega)
          refine lv_iinc (v := x5) (lv' := [(3, .int x5), (0, .ref o), (1, .int w), (2, .int r1)]) hx hb dX12_isSide_51 hl (k := 0) rfl (by rw [ex5]; rfl) (by decide +kernel) rfl (fun ls hl => ?_)
          refine lv_goto (tgt := 2) hx hb dX12_isSide_54 (by decide +kernel) ?_
          exact ih1 x5 (show 0 ≤ x5.toInt ∧ x5.toInt ≤ 200 from by have h50 : x5.toInt = (y1_3.toInt + 1) := tx5; omega) (show ∀ s : Nat, (s : Int) < x5.toInt → ¬ sdP (c 9) (c 10) (c 11) (c 13) w.toInt r1.toInt s from fs_go hz1_0 (by omega) (by unfold sdP; omega) tx5) (by have h50 : x5.toInt = (y1_3.toInt + 1) := tx5; omega) _ _ _ hP hS (lv_sub hl [0, 1, 2, 3] rfl)
        · have f4 := mt (ti_eq (a := x3.toInt) (b := 0) rfl (by decide +kernel)).mpr c4
          refine lv_aload_n hx hb dX12_isSide_19 rfl (lv_at hl 1 rfl) ?_
          refine mget_9 hx hb hts (fun _ h => List.mem_cons_of_mem _ (List.mem_append_right _ h)) hown hK hP (hts (.fieldLink RX12 25 "TalePlayModel" "form" "[I") (List.mem_cons_of_mem _ (List.mem_append_left _ (List.mem_of_getElem? (i := 2) rfl)))) dX12_isSide_20 ?_
          refine lv_iload_n hx hb dX12_isSide_23 rfl (lv_at hl 0 rfl) ?_
          refine mld_9 hx hb hK hP (vp_in_iff.mpr (by have h9 : y1_3.toInt = y1_3.toInt := rfl; omega)) dX12_isSide_24 (fun x6 ex6 => ?_)
          have rx6 : 0 ≤ x6.toInt ∧ x6.toInt ≤ 7 := by rw [ex6]; exact hI.2 9 _
          have gx6 : (c 9 (y1_3 : Int32).toNatClampNeg).toInt = x6.toInt := by rw [ex6]
          refine lv_iconst (v := 5) hx hb dX12_isSide_25 (by decide +kernel) ?_
          refine lv_icmp_ne (tgt := 51) hx hb dX12_isSide_26 (by decide +kernel) (fun c7 => ?_) (fun c7 => ?_)
          · have f7 := mt (ti_eq (a := x6.toInt) (b := 5) rfl (by decide +kernel)).mpr c7
            obtain ⟨x8, ex8⟩ : ∃ y : Int32, y = y1_3 + 1 := ⟨_, rfl⟩
            have tx8 := ti_add (a := y1_3.toInt) (b := 1) ex8 rfl (by decide +kernel) (by omega) (by omega)
            refine lv_iinc (v := x8) (lv' := [(3, .int x8), (0, .ref o), (1, .int w), (2, .int r1)]) hx hb dX12_isSide_51 hl (k := 0) rfl (by rw [ex8]; rfl) (by decide +kernel) rfl (fun ls hl => ?_)
            refine lv_goto (tgt := 2) hx hb dX12_isSide_54 (by decide +kernel) ?_
            exact ih1 x8 (show 0 ≤ x8.toInt ∧ x8.toInt ≤ 200 from by have h50 : x8.toInt = (y1_3.toInt + 1) := tx8; omega) (show ∀ s : Nat, (s : Int) < x8.toInt → ¬ sdP (c 9) (c 10) (c 11) (c 13) w.toInt r1.toInt s from fs_go hz1_0 (by omega) (by unfold sdP; omega) tx8) (by have h50 : x8.toInt = (y1_3.toInt + 1) := tx8; omega) _ _ _ hP hS (lv_sub hl [0, 1, 2, 3] rfl)
          · have f7 := (ti_eq (a := x6.toInt) (b := 5) rfl (by decide +kernel)).mp c7
            refine lv_aload_n hx hb dX12_isSide_29 rfl (lv_at hl 1 rfl) ?_
            refine mget_11 hx hb hts (fun _ h => List.mem_cons_of_mem _ (List.mem_append_right _ h)) hown hK hP (hts (.fieldLink RX12 31 "TalePlayModel" "middle" "[I") (List.mem_cons_of_mem _ (List.mem_append_left _ (List.mem_of_getElem? (i := 3) rfl)))) dX12_isSide_30 ?_
            refine lv_iload_n hx hb dX12_isSide_33 rfl (lv_at hl 0 rfl) ?_
            refine mld_11 hx hb hK hP (vp_in_iff.mpr (by have h9 : y1_3.toInt = y1_3.toInt := rfl; omega)) dX12_isSide_34 (fun x9 ex9 => ?_)
            have rx9 : 0 ≤ x9.toInt ∧ x9.toInt ≤ 29 := by rw [ex9]; exact hI.2 11 _
            have gx9 : (c 11 (y1_3 : Int32).toNatClampNeg).toInt = x9.toInt := by rw [ex9]
            refine lv_iload_n hx hb dX12_isSide_35 rfl (lv_at hl 2 rfl) ?_
            refine lv_icmp_ne (tgt := 51) hx hb dX12_isSide_36 (by decide +kernel) (fun c10 => ?_) (fun c10 => ?_)
            · have f10 := mt (ti_eq (a := x9.toInt) (b := w.toInt) rfl rfl).mpr c10
              obtain ⟨x11, ex11⟩ : ∃ y : Int32, y = y1_3 + 1 := ⟨_, rfl⟩
              have tx11 := ti_add (a := y1_3.toInt) (b := 1) ex11 rfl (by decide +kernel) (by omega) (by omega)
              refine lv_iinc (v := x11) (lv' := [(3, .int x11), (0, .ref o), (1, .int w), (2, .int r1)]) hx hb dX12_isSide_51 hl (k := 0) rfl (by rw [ex11]; rfl) (by decide +kernel) rfl (fun ls hl => ?_)
              refine lv_goto (tgt := 2) hx hb dX12_isSide_54 (by decide +kernel) ?_
              exact ih1 x11 (show 0 ≤ x11.toInt ∧ x11.toInt ≤ 200 from by have h50 : x11.toInt = (y1_3.toInt + 1) := tx11; omega) (show ∀ s : Nat, (s : Int) < x11.toInt → ¬ sdP (c 9) (c 10) (c 11) (c 13) w.toInt r1.toInt s from fs_go hz1_0 (by omega) (by unfold sdP; omega) tx11) (by have h50 : x11.toInt = (y1_3.toInt + 1) := tx11; omega) _ _ _ hP hS (lv_sub hl [0, 1, 2, 3] rfl)
            · have f10 := (ti_eq (a := x9.toInt) (b := w.toInt) rfl rfl).mp c10
              refine lv_aload_n hx hb dX12_isSide_39 rfl (lv_at hl 1 rfl) ?_
              refine mget_10 hx hb hts (fun _ h => List.mem_cons_of_mem _ (List.mem_append_right _ h)) hown hK hP (hts (.fieldLink RX12 28 "TalePlayModel" "left" "[I") (List.mem_cons_of_mem _ (List.mem_append_left _ (List.mem_of_getElem? (i := 4) rfl)))) dX12_isSide_40 ?_
              refine lv_iload_n hx hb dX12_isSide_43 rfl (lv_at hl 0 rfl) ?_
              refine mld_10 hx hb hK hP (vp_in_iff.mpr (by have h9 : y1_3.toInt = y1_3.toInt := rfl; omega)) dX12_isSide_44 (fun x12 ex12 => ?_)
              have rx12 : 0 ≤ x12.toInt ∧ x12.toInt ≤ 29 := by rw [ex12]; exact hI.2 10 _
              have gx12 : (c 10 (y1_3 : Int32).toNatClampNeg).toInt = x12.toInt := by rw [ex12]
              refine lv_iload_n hx hb dX12_isSide_45 rfl (lv_at hl 3 rfl) ?_
              refine lv_icmp_ne (tgt := 51) hx hb dX12_isSide_46 (by decide +kernel) (fun c13 => ?_) (fun c13 => ?_)
              · have f13 := mt (ti_eq (a := x12.toInt) (b := r1.toInt) rfl rfl).mpr c13
                obtain ⟨x14, ex14⟩ : ∃ y : Int32, y = y1_3 + 1 := ⟨_, rfl⟩
                have tx14 := ti_add (a := y1_3.toInt) (b := 1) ex14 rfl (by decide +kernel) (by omega) (by omega)
                refine lv_iinc (v := x14) (lv' := [(3, .int x14), (0, .ref o), (1, .int w), (2, .int r1)]) hx hb dX12_isSide_51 hl (k := 0) rfl (by rw [ex14]; rfl) (by decide +kernel) rfl (fun ls hl => ?_)
                refine lv_goto (tgt := 2) hx hb dX12_isSide_54 (by decide +kernel) ?_
                exact ih1 x14 (show 0 ≤ x14.toInt ∧ x14.toInt ≤ 200 from by have h50 : x14.toInt = (y1_3.toInt + 1) := tx14; omega) (show ∀ s : Nat, (s : Int) < x14.toInt → ¬ sdP (c 9) (c 10) (c 11) (c 13) w.toInt r1.toInt s from fs_go hz1_0 (by omega) (by unfold sdP; omega) tx14) (by have h50 : x14.toInt = (y1_3.toInt + 1) := tx14; omega) _ _ _ hP hS (lv_sub hl [0, 1, 2, 3] rfl)
              · have f13 := (ti_eq (a := x12.toInt) (b := r1.toInt) rfl rfl).mp c13
                refine lv_iconst (v := 1) hx hb dX12_isSide_49 (by decide +kernel) ?_
                exact ro_zret hx hb hr hlocks hS rfl dX12_isSide_50 ⟨(show 0 ≤ (1 : Int32).toInt ∧ (1 : Int32).toInt ≤ 1 from by have h9 : (1 : Int32).toInt = 1 := (by decide +kernel); omega), (show Sm (1 : Int32) (∃ s : Nat, (s : Int) < (i 8).toInt ∧ sdP (c 9) (c 10) (c 11) (c 13) w.toInt r1.toInt s) from sm_1 ⟨y1_3.toNatClampNeg, by rw [cl_nn (by omega)]; omega, by unfold sdP; omega⟩)⟩
  exact lp1 _ (0 : Int32) (show 0 ≤ (0 : Int32).toInt ∧ (0 : Int32).toInt ≤ 200 from by have h50 : (0 : Int32).toInt = 0 := (by decide +kernel); omega) (show ∀ s : Nat, (s : Int) < (0 : Int32).toInt → ¬ sdP (c 9) (c 10) (c 11) (c 13) w.toInt r1.toInt s from fs_0 (by decide +kernel)) (Nat.lt_succ_self _) _ _ _ hP hS (lv_sub hl [0, 1, 2, 3] rfl)

set_option maxHeartbeats 4000000 in
set_option maxRecDepth 100000 in
theorem s_X12_shuts_t (l : Launch) (D : va_G) (sz : Nat) (o : Nat) (a : Nat → Nat) (t : Nat → ClassId) (i : Nat → Int32) (q : Int64) (c : Nat → Nat → Int32) (d : Nat → Nat → Int64) (w : Int32) (b1 : Int32) (hI : mInv i c) (hw : 0 ≤ w.toInt ∧ w.toInt < (i 5).toInt) (hb1 : 0 ≤ b1.toInt ∧ b1.toInt ≤ 1) (hs_E : CcE (c 3) (c 6) (c 47) (c 48) (c 49) (i 5).toInt) : Met l yX12_shuts wm_X12_shuts ({ frames := 0, cells := 0, slots := 0, locals := 0 }) (va_Pc [.ref o, .int w, .int b1] (pA D sz (mW o a t i q c d) (mT t))) (va_Qi (fun (r : Int32) (_ : Unit) => ((0 ≤ r.toInt ∧ r.toInt ≤ 1) ∧ (Sm r (Cv (zM (c 3) (c 6) (i 5).toInt) (bM (c 25)) (bM (c 46)) ((1 : Int) ≤ b1.toInt) w.toInt)))) oA (ro sz)) 0 0 (ro sz) := by
  refine Met.ofW (cc := cX12_shuts) (maxL := 3) (ret := (some .boolean)) (by decide +kernel) rfl ?_
  intro p e s m args below meth cd s₁ B hml hv
  obtain ⟨rfl, hsz, hP, hK⟩ := hv
  have hx := B.exec
  have hb := B.bytes
  have hr := B.returns
  have hts := atoms_spec (ws := wm_X12_shuts) B.pre
  have hown : s.vm.findClass RX12 = some m.cls := findClass_of_methodNamed B.named
  have hlocks := B.notSynchronized
  subst hsz
  have hA : ∀ q : Nat, s.heap.size ≤ q → ro s.heap.size q := fun _ h => h
  have hS : va_S (ro s.heap.size) s.heap s.heap [] := va_S.rf
  have hl := lv_entry ([.ref o, .int w, .int b1]) (n := 3) (Nat.le_of_ble_eq_true rfl)
  rw [lg_entry_eq]
  generalize (lg_sl ([.ref o, .int w, .int b1]) ++ List.replicate (3 - (lg_sl ([.ref o, .int w, .int b1])).length) Slot.unset).toArray = ls at hl ⊢
  have hl : lv_has ls 3 [(0, .ref o), (1, .int w), (2, .int b1)] := hl
  have rb5_i : 0 ≤ (i 5).toInt ∧ (i 5).toInt ≤ 30 := hI.1 5
  have hce := H3_i (hs_E w.toInt (by omega) (by omega))
  refine lv_aload_n hx hb dX12_shuts_0 rfl (lv_at hl 0 rfl) ?_
  refine mget_47 hx hb hts (fun _ h => List.mem_cons_of_mem _ (List.mem_append_right _ h)) hown hK hP (hts (.fieldLink RX12 98 "TalePlayModel" "isBox" "[Z") (List.mem_cons_of_mem _ (List.mem_append_left _ (List.mem_of_getElem? (i := 0) rfl)))) dX12_shuts_1 ?_
  refine lv_iload_n hx hb dX12_shuts_4 rfl (lv_at hl 1 rfl) ?_
  refine mld_47 hx hb hK hP (vp_in_iff.mpr (by have h9 : w.toInt = w.toInt := rfl; omega)) dX12_shuts_5 (fun x1 ex1 => ?_)
  have rx1 : 0 ≤ x1.toInt ∧ x1.toInt ≤ 1 := by rw [ex1]; exact hI.2 47 _
  have gx1 : (c 47 (w : Int32).toNatClampNeg).toInt = x1.toInt := by rw [ex1]
  refine lv_if_eq (tgt := 35) hx hb dX12_shuts_6 (by decide +kernel) (fun c2 => ?_) (fun c2 => ?_)
  · have f2 := (ti_eq (a := x1.toInt) (b := 0) rfl (by decide +kernel)).mp c2
    refine lv_iconst (v := 0) hx hb dX12_shuts_35 (by decide +kernel) ?_
    exact ro_zret hx hb hr hlocks hS rfl dX12_shuts_36 ⟨(show 0 ≤ (0 : Int32).toInt ∧ (0 : Int32).toInt ≤ 1 from by have h9 : (0 : Int32).toInt = 0 := (by decide +kernel); omega), (show Sm (0 : Int32) (Cv (zM (c 3) (c 6) (i 5).toInt) (bM (c 25)) (bM (c 46)) ((1 : Int) ≤ b1.toInt) w.toInt) from sm_0 (fun h9 => by have h8 := hce.1.mpr h9.1; have h7 := (show (c 47 w.toInt.toNat).toInt = x1.toInt from gx1); omega))⟩
  · have f2 := mt (ti_eq (a := x1.toInt) (b := 0) rfl (by decide +kernel)).mpr c2
    refine lv_aload_n hx hb dX12_shuts_9 rfl (lv_at hl 0 rfl) ?_
    refine mget_25 hx hb hts (fun _ h => List.mem_cons_of_mem _ (List.mem_append_right _ h)) hown hK hP (hts (.fieldLink RX12 56 "TalePlayModel" "nOpen" "[Z") (List.mem_cons_of_mem _ (List.mem_append_left _ (List.mem_of_getElem? (i := 1) rfl)))) dX12_shuts_10 ?_
    refine lv_iload_n hx hb dX12_shuts_13 rfl (lv_at hl 1 rfl) ?_
    refine mld_25 hx hb hK hP (vp_in_iff.mpr (by have h9 : w.toInt = w.toInt := rfl; omega)) dX12_shuts_14 (fun x3 ex3 => ?_)
    have rx3 : 0 ≤ x3.toInt ∧ x3.toInt ≤ 1 := by rw [ex3]; exact hI.2 25 _
    have gx3 : (c 25 (w : Int32).toNatClampNeg).toInt = x3.toInt := by rw [ex3]
    refine lv_if_ne (tgt := 35) hx hb dX12_shuts_15 (by decide +kernel) (fun c4 => ?_) (fun c4 => ?_)
    · have f4 := mt (ti_eq (a := x3.toInt) (b := 0) rfl (by decide +kernel)).mpr c4
      refine lv_iconst (v := 0) hx hb dX12_shuts_35 (by decide +kernel) ?_
      exact ro_zret hx hb hr hlocks hS rfl dX12_shuts_36 ⟨(show 0 ≤ (0 : Int32).toInt ∧ (0 : Int32).toInt ≤ 1 from by have h9 : (0 : Int32).toInt = 0 := (by decide +kernel); omega), (show Sm (0 : Int32) (Cv (zM (c 3) (c 6) (i 5).toInt) (bM (c 25)) (bM (c 46)) ((1 : Int) ≤ b1.toInt) w.toInt) from sm_0 (fun h9 => h9.2.1 (show (c 25 w.toInt.toNat).toInt = 1 from by have h8 := (show (c 25 w.toInt.toNat).toInt = x3.toInt from gx3); omega)))⟩
    · have f4 := (ti_eq (a := x3.toInt) (b := 0) rfl (by decide +kernel)).mp c4
      refine lv_iload_n hx hb dX12_shuts_18 rfl (lv_at hl 2 rfl) ?_
      refine lv_if_ne (tgt := 31) hx hb dX12_shuts_19 (by decide +kernel) (fun c5 => ?_) (fun c5 => ?_)
      · have f5 := mt (ti_eq (a := b1.toInt) (b := 0) rfl (by decide +kernel)).mpr c5
        refine lv_iconst (v := 1) hx hb dX12_shuts_31 (by decide +kernel) ?_
        refine lv_goto (tgt := 36) hx hb dX12_shuts_32 (by decide +kernel) ?_
        exact ro_zret hx hb hr hlocks hS rfl dX12_shuts_36 ⟨(show 0 ≤ (1 : Int32).toInt ∧ (1 : Int32).toInt ≤ 1 from by have h9 : (1 : Int32).toInt = 1 := (by decide +kernel); omega), (show Sm (1 : Int32) (Cv (zM (c 3) (c 6) (i 5).toInt) (bM (c 25)) (bM (c 46)) ((1 : Int) ≤ b1.toInt) w.toInt) from sm_1 ⟨hce.1.mp (by have h9 := (show (c 47 w.toInt.toNat).toInt = x1.toInt from gx1); omega), (fun h8 => by have h7 : (c 25 w.toInt.toNat).toInt = 1 := h8; have h6 := (show (c 25 w.toInt.toNat).toInt = x3.toInt from gx3); omega), Or.inl (by omega)⟩)⟩
      · have f5 := (ti_eq (a := b1.toInt) (b := 0) rfl (by decide +kernel)).mp c5
        refine lv_aload_n hx hb dX12_shuts_22 rfl (lv_at hl 0 rfl) ?_
        refine mget_46 hx hb hts (fun _ h => List.mem_cons_of_mem _ (List.mem_append_right _ h)) hown hK hP (hts (.fieldLink RX12 95 "TalePlayModel" "glass" "[Z") (List.mem_cons_of_mem _ (List.mem_append_left _ (List.mem_of_getElem? (i := 2) rfl)))) dX12_shuts_23 ?_
        refine lv_iload_n hx hb dX12_shuts_26 rfl (lv_at hl 1 rfl) ?_
        refine mld_46 hx hb hK hP (vp_in_iff.mpr (by have h9 : w.toInt = w.toInt := rfl; omega)) dX12_shuts_27 (fun x6 ex6 => ?_)
        have rx6 : 0 ≤ x6.toInt ∧ x6.toInt ≤ 1 := by rw [ex6]; exact hI.2 46 _
        have gx6 : (c 46 (w : Int32).toNatClampNeg).toInt = x6.toInt := by rw [ex6]
        refine lv_if_ne (tgt := 35) hx hb dX12_shuts_28 (by decide +kernel) (fun c7 => ?_) (fun c7 => ?_)
        · have f7 := mt (ti_eq (a := x6.toInt) (b := 0) rfl (by decide +kernel)).mpr c7
          refine lv_iconst (v := 0) hx hb dX12_shuts_35 (by decide +kernel) ?_
          exact ro_zret hx hb hr hlocks hS rfl dX12_shuts_36 ⟨(show 0 ≤ (0 : Int32).toInt ∧ (0 : Int32).toInt ≤ 1 from by have h9 : (0 : Int32).toInt = 0 := (by decide +kernel); omega), (show Sm (0 : Int32) (Cv (zM (c 3) (c 6) (i 5).toInt) (bM (c 25)) (bM (c 46)) ((1 : Int) ≤ b1.toInt) w.toInt) from sm_0 (fun h9 => h9.2.2.elim (fun h8 => by omega) (fun h8 => h8 (show (c 46 w.toInt.toNat).toInt = 1 from by have h7 := (show (c 46 w.toInt.toNat).toInt = x6.toInt from gx6); omega))))⟩
        · have f7 := (ti_eq (a := x6.toInt) (b := 0) rfl (by decide +kernel)).mp c7
          refine lv_iconst (v := 1) hx hb dX12_shuts_31 (by decide +kernel) ?_
          refine lv_goto (tgt := 36) hx hb dX12_shuts_32 (by decide +kernel) ?_
          exact ro_zret hx hb hr hlocks hS rfl dX12_shuts_36 ⟨(show 0 ≤ (1 : Int32).toInt ∧ (1 : Int32).toInt ≤ 1 from by have h9 : (1 : Int32).toInt = 1 := (by decide +kernel); omega), (show Sm (1 : Int32) (Cv (zM (c 3) (c 6) (i 5).toInt) (bM (c 25)) (bM (c 46)) ((1 : Int) ≤ b1.toInt) w.toInt) from sm_1 ⟨hce.1.mp (by have h9 := (show (c 47 w.toInt.toNat).toInt = x1.toInt from gx1); omega), (fun h8 => by have h7 : (c 25 w.toInt.toNat).toInt = 1 := h8; have h6 := (show (c 25 w.toInt.toNat).toInt = x3.toInt from gx3); omega), Or.inr (fun h8 => by have h7 : (c 46 w.toInt.toNat).toInt = 1 := h8; have h6 := (show (c 46 w.toInt.toNat).toInt = x6.toInt from gx6); omega)⟩)⟩

