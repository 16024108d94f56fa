/-! ways up: t lies on the way up from x (x itself counted) -/
def itr (f : Int → Int) : Nat → Int → Int
  | 0, x => x
  | n + 1, x => itr f n (f x)
def Ch (f : Int → Int) (x t : Int) : Prop := ∃ n, itr f n x = t
theorem Ch_rf {f : Int → Int} {x : Int} : Ch f x x := ⟨0, rfl⟩
theorem Ch_up {f : Int → Int} {x t : Int} (h : Ch f (f x) t) : Ch f x t := by
  obtain ⟨n, h⟩ := h
  exact ⟨n + 1, h⟩
theorem Ch_st {f : Int → Int} {x t : Int} : Ch f x t ↔ x = t ∨ Ch f (f x) t := by
  constructor
  · intro ⟨n, h⟩
    cases n with
    | zero => exact Or.inl h
    | succ n => exact Or.inr ⟨n, h⟩
  · intro h
    rcases h with h | h
    · exact ⟨0, h⟩
    · exact Ch_up h
theorem Ch_nx {f : Int → Int} {x t : Int} (hn : ¬ x = t) : Ch f x t ↔ Ch f (f x) t :=
  ⟨fun h => (Ch_st.mp h).resolve_left hn, Ch_up⟩
theorem Ch_nd {f : Int → Int} (hf : f (-9) = -9) {t : Int} (h : Ch f (-9) t) : t = -9 := by
  obtain ⟨n, h⟩ := h
  induction n with
  | zero => exact h.symm
  | succ n ih =>
    have q : itr f n (f (-9)) = t := h
    rw [hf] at q
    exact ih q
theorem itr_add (f : Int → Int) (m n : Nat) : ∀ x, itr f (m + n) x = itr f n (itr f m x) := by
  induction m with
  | zero => intro x; rw [Nat.zero_add]; rfl
  | succ m ih => intro x; rw [Nat.succ_add]; exact ih (f x)
theorem Ch_tr {f : Int → Int} {x y z : Int} (h1 : Ch f x y) (h2 : Ch f y z) : Ch f x z := by
  obtain ⟨m, h1⟩ := h1
  obtain ⟨n, h2⟩ := h2
  exact ⟨m + n, by rw [itr_add, h1, h2]⟩
theorem Ch_ln {f : Int → Int} {x y z : Int} (h1 : Ch f x y) (h2 : Ch f x z) : Ch f y z ∨ Ch f z y := by
  obtain ⟨m, h1⟩ := h1
  obtain ⟨n, h2⟩ := h2
  rcases Nat.le_total m n with q | q
  · left
    refine ⟨n - m, ?_⟩
    rw [← h1, ← itr_add, show m + (n - m) = n by omega, h2]
  · right
    refine ⟨m - n, ?_⟩
    rw [← h2, ← itr_add, show n + (m - n) = m by omega, h1]
/-- how many of the first n -/
def cnt (P : Nat → Bool) : Nat → Nat
  | 0 => 0
  | n + 1 => cnt P n + (if P n = true then 1 else 0)
theorem cnt_mono {P Q : Nat → Bool} {n : Nat} (h : ∀ j, j < n → P j = true → Q j = true) : cnt P n ≤ cnt Q n := by
  induction n with
  | zero => exact Nat.le_refl _
  | succ n ih =>
    have i := ih (fun j hj => h j (by omega))
    have q := h n (by omega)
    show cnt P n + (if P n = true then 1 else 0) ≤ cnt Q n + (if Q n = true then 1 else 0)
    by_cases e : P n = true
    · rw [if_pos e, if_pos (q e)]; omega
    · rw [if_neg e]; omega
theorem cnt_lt {P Q : Nat → Bool} {n j : Nat} (h : ∀ j, j < n → P j = true → Q j = true) (hj : j < n) (h1 : ¬ P j = true) (h2 : Q j = true) : cnt P n < cnt Q n := by
  induction n with
  | zero => omega
  | succ n ih =>
    show cnt P n + (if P n = true then 1 else 0) < cnt Q n + (if Q n = true then 1 else 0)
    by_cases e : j = n
    · subst e
      have i := cnt_mono (P := P) (Q := Q) (n := j) (fun k hk => h k (by omega))
      rw [if_neg h1, if_pos h2]; omega
    · have i := ih (fun k hk => h k (by omega)) (by omega)
      have q := h n (by omega)
      by_cases e : P n = true
      · rw [if_pos e, if_pos (q e)]; omega
      · rw [if_neg e]; omega
theorem cnt_all (n : Nat) : cnt (fun _ => true) n = n := by
  induction n with
  | zero => rfl
  | succ n ih => show cnt (fun _ => true) n + (if true = true then 1 else 0) = n + 1; rw [ih, if_pos rfl]
theorem cnt_free {P : Nat → Bool} {n j : Nat} (hj : j < n) (h1 : ¬ P j = true) : cnt P n < n := by
  have h := cnt_lt (P := P) (Q := fun _ => true) (n := n) (j := j) (fun _ _ _ => rfl) hj h1 rfl
  rw [cnt_all] at h
  exact h
/-- no ways in rings -/
def Rk (f : Int → Int) (rk : Int → Nat) : Prop := (∀ x, rk x ≤ 29) ∧ ∀ x, 0 ≤ x → x ≤ 29 → ¬ f x = -9 → rk (f x) < rk x
def Acy (f : Int → Int) : Prop := ∃ rk, Rk f rk
/-- what a step up gives -/
def Sp (f : Int → Int) : Prop := f (-9) = -9 ∧ ∀ x, f x = -9 ∨ (0 ≤ f x ∧ f x ≤ 29)
theorem Acy_of {f : Int → Int} (hr : Sp f) (r0 : Int → Nat) (h : ∀ x, 0 ≤ x → x ≤ 29 → ¬ f x = -9 → r0 (f x) < r0 x) : Acy f := by
  refine ⟨fun x => if 0 ≤ x ∧ x ≤ 29 then cnt (fun j => decide (r0 (j : Int) < r0 x)) 30 else 0, fun x => ?_, fun x h0 h1 hn => ?_⟩
  · by_cases q : 0 ≤ x ∧ x ≤ 29
    · have e : ((x.toNat : Nat) : Int) = x := by omega
      have w := cnt_free (P := fun j => decide (r0 (j : Int) < r0 x)) (n := 30) (j := x.toNat) (by omega) (by simp only [e]; simp)
      show (if 0 ≤ x ∧ x ≤ 29 then cnt (fun j => decide (r0 (j : Int) < r0 x)) 30 else 0) ≤ 29
      rw [if_pos q]; omega
    · show (if 0 ≤ x ∧ x ≤ 29 then cnt (fun j => decide (r0 (j : Int) < r0 x)) 30 else 0) ≤ 29
      rw [if_neg q]; omega
  · rcases hr.2 x with q | q
    · exact absurd q hn
    · have hd := h x h0 h1 hn
      have e : (((f x).toNat : Nat) : Int) = f x := by omega
      show (if 0 ≤ f x ∧ f x ≤ 29 then cnt (fun j => decide (r0 (j : Int) < r0 (f x))) 30 else 0) < (if 0 ≤ x ∧ x ≤ 29 then cnt (fun j => decide (r0 (j : Int) < r0 x)) 30 else 0)
      rw [if_pos q, if_pos ⟨h0, h1⟩]
      refine cnt_lt (j := (f x).toNat) (fun j _ hj => ?_) (by omega) ?_ ?_
      · have hj := of_decide_eq_true hj
        exact decide_eq_true (by omega)
      · simp only [e]; simp
      · simp only [e]; exact decide_eq_true hd
theorem Rk_le {f : Int → Int} {rk : Int → Nat} (hr : Sp f) (h : Rk f rk) {x t : Int} (hc : Ch f x t) (hx : 0 ≤ x) (hx2 : x ≤ 29) (ht : ¬ t = -9) : rk t ≤ rk x := by
  obtain ⟨n, hc⟩ := hc
  induction n generalizing x with
  | zero => have q : x = t := hc; rw [q]; exact Nat.le_refl _
  | succ n ih =>
    have q : itr f n (f x) = t := hc
    rcases hr.2 x with e | e
    · rw [e] at q
      exact absurd (Ch_nd hr.1 ⟨n, q⟩) ht
    · have i := ih e.1 e.2 q
      have d := h.2 x hx hx2 (by omega)
      omega
theorem Acy_no {f : Int → Int} (hr : Sp f) (h : Acy f) {x : Int} (hx : 0 ≤ x) (hx2 : x ≤ 29) : ¬ Ch f (f x) x := by
  intro hc
  obtain ⟨rk, h⟩ := h
  rcases hr.2 x with e | e
  · rw [e] at hc
    have := Ch_nd hr.1 hc
    omega
  · have i := Rk_le hr h hc e.1 e.2 (by omega)
    have d := h.2 x hx hx2 (by omega)
    omega
/-- z is laid to w -/
def rp (f : Int → Int) (z w : Int) : Int → Int := fun x => if x = z then w else f x
theorem rp_s {f : Int → Int} {z w : Int} : rp f z w z = w := if_pos rfl
theorem rp_n {f : Int → Int} {z w x : Int} (h : ¬ x = z) : rp f z w x = f x := if_neg h
theorem rp_Sp {f : Int → Int} {z w : Int} (hr : Sp f) (hz : ¬ z = -9) (hw : w = -9 ∨ (0 ≤ w ∧ w ≤ 29)) : Sp (rp f z w) := by
  refine ⟨?_, fun x => ?_⟩
  · rw [rp_n (fun e => hz e.symm)]; exact hr.1
  · by_cases e : x = z
    · rw [e, rp_s]; exact hw
    · rw [rp_n e]; exact hr.2 x
theorem Ch_rp {f : Int → Int} {z w x t : Int} (hz : ¬ Ch f x z) (h : Ch f x t) : Ch (rp f z w) x t := by
  obtain ⟨n, h⟩ := h
  induction n generalizing x with
  | zero => exact ⟨0, h⟩
  | succ n ih =>
    have e : ¬ x = z := fun e => hz (by rw [e]; exact Ch_rf)
    have i := ih (x := f x) (fun q => hz (Ch_up q)) h
    exact Ch_up (by rw [rp_n e]; exact i)
theorem Acy_rp {f : Int → Int} {z w : Int} (hr : Sp f) (hA : Acy f) (hz : ¬ z = -9) (hw : w = -9 ∨ (0 ≤ w ∧ w ≤ 29)) (hn : ¬ Ch f w z) : Acy (rp f z w) := by
  obtain ⟨rk, h⟩ := hA
  have key : ∃ r0 : Int → Nat, ∀ x, (Ch f x z → r0 x = rk x + (rk w + 1)) ∧ (¬ Ch f x z → r0 x = rk x) := by
    refine ⟨fun x => @ite Nat (Ch f x z) (Classical.propDecidable _) (rk x + (rk w + 1)) (rk x), fun x => ⟨fun q => ?_, fun q => ?_⟩⟩
    · exact if_pos q
    · exact if_neg q
  obtain ⟨r0, hk⟩ := key
  refine Acy_of (rp_Sp hr hz hw) r0 (fun x h0 h1 hx => ?_)
  by_cases e : x = z
  · rw [e, rp_s]
    have a := (hk z).1 Ch_rf
    have b := (hk w).2 hn
    omega
  · rw [rp_n e] at hx ⊢
    have d := h.2 x h0 h1 hx
    by_cases q : Ch f (f x) z
    · have a := (hk (f x)).1 q
      have b := (hk x).1 (Ch_up q)
      omega
    · have a := (hk (f x)).2 q
      by_cases q2 : Ch f x z
      · have b := (hk x).1 q2
        omega
      · have b := (hk x).2 q2
        omega
theorem Acy_le {f g : Int → Int} (h : Acy f) (he : ∀ x, 0 ≤ x → x ≤ 29 → g x = -9 ∨ g x = f x) : Acy g := by
  obtain ⟨rk, h⟩ := h
  refine ⟨rk, h.1, fun x h0 h1 hn => ?_⟩
  rcases he x h0 h1 with q | q
  · exact absurd q hn
  · rw [q] at hn ⊢
    exact h.2 x h0 h1 hn
/-! the first, the last of the first n -/
def fst (P : Nat → Prop) (n : Nat) (r : Int) : Prop := (r = -9 ∧ ∀ s, s < n → ¬ P s) ∨ ∃ s : Nat, r = (s : Int) ∧ s < n ∧ P s ∧ ∀ s2, s2 < s → ¬ P s2
theorem fst_u {P : Nat → Prop} {n : Nat} {r r2 : Int} (h : fst P n r) (h2 : fst P n r2) : r = r2 := by
  rcases h with ⟨h, a⟩ | ⟨s, h, a, b, d⟩ <;> rcases h2 with ⟨h2, a2⟩ | ⟨s2, h2, a2, b2, d2⟩
  · omega
  · exact absurd b2 (a s2 a2)
  · exact absurd b (a2 s a)
  · rcases Nat.lt_trichotomy s s2 with q | q | q
    · exact absurd b (d2 s q)
    · omega
    · exact absurd b2 (d s2 q)
def lst (P : Nat → Prop) (n : Nat) (r : Int) : Prop := (r = -9 ∧ ∀ s, s < n → ¬ P s) ∨ ∃ s : Nat, r = (s : Int) ∧ s < n ∧ P s ∧ ∀ s2, s < s2 → s2 < n → ¬ P s2
theorem lst_u {P : Nat → Prop} {n : Nat} {r r2 : Int} (h : lst P n r) (h2 : lst P n r2) : r = r2 := by
  rcases h with ⟨h, a⟩ | ⟨s, h, a, b, d⟩ <;> rcases h2 with ⟨h2, a2⟩ | ⟨s2, h2, a2, b2, d2⟩
  · omega
  · exact absurd b2 (a s2 a2)
  · exact absurd b (a2 s a)
  · rcases Nat.lt_trichotomy s s2 with q | q | q
    · exact absurd b2 (d s2 q a2)
    · omega
    · exact absurd b (d2 s q a)
theorem fst_ex (P : Nat → Prop) (n : Nat) : ∃ r, fst P n r := by
  induction n with
  | zero => exact ⟨-9, Or.inl ⟨rfl, fun s h => absurd h (Nat.not_lt_zero s)⟩⟩
  | succ n ih =>
    obtain ⟨r, ih⟩ := ih
    rcases ih with ⟨h, a⟩ | ⟨s, h, a, b, d⟩
    · by_cases q : P n
      · exact ⟨(n : Int), Or.inr ⟨n, rfl, Nat.lt_succ_self n, q, fun s2 h2 => a s2 h2⟩⟩
      · refine ⟨-9, Or.inl ⟨rfl, fun s hs => ?_⟩⟩
        by_cases e : s = n
        · rw [e]; exact q
        · exact a s (by omega)
    · exact ⟨r, Or.inr ⟨s, h, by omega, b, d⟩⟩
noncomputable def fsF (P : Nat → Prop) (n : Nat) : Int := Classical.choose (fst_ex P n)
theorem fsF_s (P : Nat → Prop) (n : Nat) : fst P n (fsF P n) := Classical.choose_spec (fst_ex P n)
theorem fsF_e {P : Nat → Prop} {n : Nat} {r : Int} (h : fst P n r) : r = fsF P n := fst_u h (fsF_s P n)
theorem lst_ex (P : Nat → Prop) (n : Nat) : ∃ r, lst P n r := by
  induction n with
  | zero => exact ⟨-9, Or.inl ⟨rfl, fun s h => absurd h (Nat.not_lt_zero s)⟩⟩
  | succ n ih =>
    obtain ⟨r, ih⟩ := ih
    by_cases q : P n
    · exact ⟨(n : Int), Or.inr ⟨n, rfl, Nat.lt_succ_self n, q, fun s2 h2 h3 => by omega⟩⟩
    · rcases ih with ⟨h, a⟩ | ⟨s, h, a, b, d⟩
      · refine ⟨-9, Or.inl ⟨rfl, fun s hs => ?_⟩⟩
        by_cases e : s = n
        · rw [e]; exact q
        · exact a s (by omega)
      · refine ⟨r, Or.inr ⟨s, h, by omega, b, fun s2 h2 h3 => ?_⟩⟩
        by_cases e : s2 = n
        · rw [e]; exact q
        · exact d s2 h2 (by omega)
noncomputable def lsF (P : Nat → Prop) (n : Nat) : Int := Classical.choose (lst_ex P n)
theorem lsF_s (P : Nat → Prop) (n : Nat) : lst P n (lsF P n) := Classical.choose_spec (lst_ex P n)
theorem lsF_e {P : Nat → Prop} {n : Nat} {r : Int} (h : lst P n r) : r = lsF P n := lst_u h (lsF_s P n)
/-- a loop that looks for the first -/
theorem fs_no {P : Nat → Prop} {n : Int} {x : Int32} (h : ∀ s : Nat, (s : Int) < x.toInt → ¬ P s) (hn : n ≤ x.toInt) : (-9 : Int) = fsF P n.toNat :=
  fsF_e (Or.inl ⟨rfl, fun s hs => h s (by omega)⟩)
theorem fs_yes {P : Nat → Prop} {n : Int} {x : Int32} (h : ∀ s : Nat, (s : Int) < x.toInt → ¬ P s) (h0 : 0 ≤ x.toInt) (hn : x.toInt < n) (hp : P x.toNatClampNeg) : x.toInt = fsF P n.toNat := by
  have e : ((x.toNatClampNeg : Nat) : Int) = x.toInt := by show ((x.toInt.toNat : Nat) : Int) = x.toInt; omega
  exact fsF_e (Or.inr ⟨x.toNatClampNeg, e.symm, by omega, hp, fun s hs => h s (by omega)⟩)
theorem fs_go {P : Nat → Prop} {x y : Int32} (h : ∀ s : Nat, (s : Int) < x.toInt → ¬ P s) (h0 : 0 ≤ x.toInt) (hp : ¬ P x.toNatClampNeg) (hy : y.toInt = x.toInt + 1) : ∀ s : Nat, (s : Int) < y.toInt → ¬ P s := by
  intro s hs
  have e : ((x.toNatClampNeg : Nat) : Int) = x.toInt := by show ((x.toInt.toNat : Nat) : Int) = x.toInt; omega
  by_cases q : s = x.toNatClampNeg
  · rw [q]; exact hp
  · exact h s (by omega)
theorem fs_0 {P : Nat → Prop} {x : Int32} (h : x.toInt = 0) : ∀ s : Nat, (s : Int) < x.toInt → ¬ P s := fun s hs => by omega
theorem fsF_r {P : Nat → Prop} {n : Int} {r : Int} (h : r = fsF P n.toNat) (h0 : ¬ r = -9) : 0 ≤ r ∧ r < n ∧ P r.toNat := by
  rcases fsF_s P n.toNat with ⟨q, _⟩ | ⟨s, q, a, b, _⟩
  · omega
  · have e : r.toNat = s := by omega
    exact ⟨by omega, by omega, by rw [e]; exact b⟩
theorem fsF_n {P : Nat → Prop} {n : Int} (h : fsF P n.toNat = -9) {s : Nat} (hs : (s : Int) < n) : ¬ P s := by
  rcases fsF_s P n.toNat with ⟨_, a⟩ | ⟨s2, q, a, b, _⟩
  · exact a s (by omega)
  · omega
/-- an answer of yes or no -/
def Sm (r : Int32) (P : Prop) : Prop := (r.toInt = 1 ∧ P) ∨ (r.toInt = 0 ∧ ¬ P)
theorem sm_t {r : Int32} {P : Prop} (h : Sm r P) (c : ¬ r = 0) : P := by
  rcases h with h | h
  · exact h.2
  · exact absurd (Int32.toInt_inj.mp (by rw [h.1]; decide)) c
theorem sm_f {r : Int32} {P : Prop} (h : Sm r P) (c : r = 0) : ¬ P := by
  rcases h with h | h
  · rw [c] at h; exact absurd h.1 (by decide +kernel)
  · exact h.2
theorem sm_1 {P : Prop} (h : P) : Sm 1 P := Or.inl ⟨by decide, h⟩
theorem sm_0 {P : Prop} (h : ¬ P) : Sm 0 P := Or.inr ⟨by decide, h⟩
/-! kinds -/
def kF (pa : Nat → Int32) (x : Int) : Int := if 0 ≤ x ∧ x ≤ 23 then (pa x.toNat).toInt else -9
/-- object o is of kind k -/
def Kd (pa ko : Nat → Int32) (o k : Int) : Prop := Ch (kF pa) (ko o.toNat).toInt k
theorem kF_at {pa : Nat → Int32} {x y : Int32} (h : 0 ≤ x.toInt ∧ x.toInt ≤ 23) (e : y = pa x.toNatClampNeg) : kF pa x.toInt = y.toInt := by
  unfold kF
  rw [if_pos h, e]
  rfl
theorem kF_9 {pa : Nat → Int32} : kF pa (-9) = -9 := if_neg (by omega)
/-- the first six kinds -/
def K6 (pa : Nat → Int32) : Prop := kF pa 0 = -9 ∧ kF pa 1 = -9 ∧ kF pa 2 = 1 ∧ kF pa 3 = 1 ∧ kF pa 4 = 1 ∧ kF pa 5 = 1
theorem K6_0 {pa : Nat → Int32} (h : K6 pa) {t : Int} (c : Ch (kF pa) 0 t) : t = 0 ∨ t = -9 := by
  rcases Ch_st.mp c with q | q
  · exact Or.inl q.symm
  · rw [h.1] at q; exact Or.inr (Ch_nd kF_9 q)
theorem K6_1 {pa : Nat → Int32} (h : K6 pa) {t : Int} (c : Ch (kF pa) 1 t) : t = 1 ∨ t = -9 := by
  rcases Ch_st.mp c with q | q
  · exact Or.inl q.symm
  · rw [h.2.1] at q; exact Or.inr (Ch_nd kF_9 q)
theorem K6_f {pa : Nat → Int32} (h : K6 pa) {a : Int} (ha : 2 ≤ a ∧ a ≤ 5) : kF pa a = 1 := by
  obtain ⟨_, _, h2, h3, h4, h5⟩ := h
  rcases (show a = 2 ∨ a = 3 ∨ a = 4 ∨ a = 5 by omega) with q | q | q | q <;> rw [q] <;> assumption
theorem K6_a {pa : Nat → Int32} (h : K6 pa) {a t : Int} (ha : 2 ≤ a ∧ a ≤ 5) (c : Ch (kF pa) a t) : t = a ∨ t = 1 ∨ t = -9 := by
  rcases Ch_st.mp c with q | q
  · exact Or.inl q.symm
  · rw [K6_f h ha] at q
    exact Or.inr (K6_1 h q)
/-- a thing is no room -/
theorem Kd_10 {pa ko : Nat → Int32} (h : K6 pa) {o : Int} (c : Kd pa ko o 1) : ¬ Kd pa ko o 0 := by
  intro d
  rcases Ch_ln c d with q | q
  · have := K6_1 h q; omega
  · have := K6_0 h q; omega
theorem Kd_a1 {pa ko : Nat → Int32} (h : K6 pa) {o a : Int} (ha : 2 ≤ a ∧ a ≤ 5) (c : Kd pa ko o a) : Kd pa ko o 1 :=
  Ch_tr c (Ch_up (by rw [K6_f h ha]; exact Ch_rf))
theorem Kd_ab {pa ko : Nat → Int32} (h : K6 pa) {o a b : Int} (ha : 2 ≤ a ∧ a ≤ 5) (hb : 2 ≤ b ∧ b ≤ 5) (hab : ¬ a = b) (c : Kd pa ko o a) : ¬ Kd pa ko o b := by
  intro d
  rcases Ch_ln c d with q | q
  · have := K6_a h ha q; omega
  · have := K6_a h hb q; omega
theorem kF_in {pa : Nat → Int32} {x : Int} (h0 : 0 ≤ x) (h1 : x ≤ 23) : kF pa x = (pa x.toNat).toInt := by
  unfold kF
  rw [if_pos ⟨h0, h1⟩]
theorem kF_it {pa pb : Nat → Int32} {n : Int} (he : ∀ j : Nat, (j : Int) < n → pb j = pa j) (hl : ∀ j : Nat, (j : Int) < n → (pa j).toInt = -9 ∨ (0 ≤ (pa j).toInt ∧ (pa j).toInt < (j : Int))) (hn : 0 ≤ n ∧ n ≤ 24) (m : Nat) : ∀ x : Int, x < n → (0 ≤ x ∨ x = -9) → itr (kF pb) m x = itr (kF pa) m x := by
  induction m with
  | zero => intro x _ _; show x = x; rfl
  | succ m ih =>
    intro x hx h0
    show itr (kF pb) m (kF pb x) = itr (kF pa) m (kF pa x)
    rcases h0 with h0 | h0
    · have hj : ((x.toNat : Nat) : Int) < n := by omega
      have e : kF pb x = kF pa x := by
        rw [kF_in h0 (by omega), kF_in h0 (by omega), he x.toNat hj]
      have q := hl x.toNat hj
      have e2 : kF pa x = (pa x.toNat).toInt := kF_in h0 (by omega)
      rw [e]
      refine ih (kF pa x) ?_ ?_
      · rw [e2]; omega
      · rw [e2]; omega
    · subst h0
      rw [kF_9, kF_9]
      refine ih (-9) ?_ ?_
      · omega
      · exact Or.inr rfl
/-- a new kind above all others changes none of them -/
theorem kF_new {pa pb : Nat → Int32} {n : Int} (he : ∀ j : Nat, (j : Int) < n → pb j = pa j) (hl : ∀ j : Nat, (j : Int) < n → (pa j).toInt = -9 ∨ (0 ≤ (pa j).toInt ∧ (pa j).toInt < (j : Int))) (hn : 0 ≤ n ∧ n ≤ 24) {x t : Int} (hx : x < n) (h0 : 0 ≤ x ∨ x = -9) : Ch (kF pb) x t ↔ Ch (kF pa) x t := by
  constructor
  · intro ⟨m, h⟩
    exact ⟨m, by rw [← kF_it he hl hn m x hx h0]; exact h⟩
  · intro ⟨m, h⟩
    exact ⟨m, by rw [kF_it he hl hn m x hx h0]; exact h⟩
/-- an implication that is not to be split -/
def Im (P Q : Prop) : Prop := P → Q

