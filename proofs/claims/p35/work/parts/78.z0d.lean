/-! a cell's bits -/
def hbt (c : Int32) (f : Int) : Prop := bq c (8 + f.toNat) = true
theorem lies_c {h f b x : Int32} (hh : 0 ≤ h.toInt ∧ h.toInt ≤ 31) (hf : 0 ≤ f.toInt ∧ f.toInt ≤ 7) (eb : b = h <<< (3 &&& 31)) (ex : x = b ||| f) : x.toInt = h.toInt * 8 + f.toInt := by
  have e2 : h <<< ((3 : Int32) &&& 31) = nI (2 ^ 3 * h.toInt.toNat) := by
    conv => lhs; rw [x_n hh.1]
    exact shl_n (j := 3) (by omega)
  have e5 : 2 ^ 3 * h.toInt.toNat ||| f.toInt.toNat = 2 ^ 3 * h.toInt.toNat + f.toInt.toNat := (Nat.two_pow_add_eq_or_of_lt (by omega) _).symm
  rw [ex, eb, e2]
  conv => lhs; rw [x_n hf.1]
  rw [or_n, e5, nI_toInt (by omega)]
  omega
theorem bq_x {c : Int32} {i : Nat} (hc : 0 ≤ c.toInt) (hi : i < 32) : bq c i = c.toInt.toNat.testBit i := by
  conv => lhs; rw [x_n hc]
  rw [bq_n, decide_eq_true hi, Bool.true_and]
theorem has_b {c f x s r : Int32} (hc : 0 ≤ c.toInt) (hf : 0 ≤ f.toInt ∧ f.toInt ≤ 5) (ex : x.toInt = 8 + f.toInt) (es : s = c >>> (x &&& 31)) (er : r = s &&& 1) : (r.toInt = 1 ∧ hbt c f.toInt) ∨ (r.toInt = 0 ∧ ¬ hbt c f.toInt) := by
  have q := Int32.toInt_lt c
  have ej : x = nI (8 + f.toInt.toNat) := by
    have z := x_n (x := x) (by omega)
    rw [show x.toInt.toNat = 8 + f.toInt.toNat by omega] at z
    exact z
  have le : c.toInt.toNat / 2 ^ (8 + f.toInt.toNat) ≤ c.toInt.toNat := Nat.div_le_self _ _
  have e1 : s = nI (c.toInt.toNat / 2 ^ (8 + f.toInt.toNat)) := by
    rw [es, ej]
    conv => lhs; rw [x_n hc]
    exact shr_n (by omega) (by omega)
  have e2 : s.toInt = ((c.toInt.toNat / 2 ^ (8 + f.toInt.toNat) : Nat) : Int) := by rw [e1, nI_toInt (by omega)]
  have e3 := and_m (x := s) (m := 1) (r := r) 1 (by rw [e2]; exact Int.natCast_nonneg _) er (by decide +kernel) (by omega)
  unfold hbt
  rw [bq_x hc (by omega), Nat.testBit_eq_decide_div_mod_eq, decide_eq_true_eq]
  rw [e2] at e3
  generalize c.toInt.toNat / 2 ^ (8 + f.toInt.toNat) = m at e3 ⊢
  omega
theorem fl_on {c b r : Int32} {k : Nat} (hk : k < 6) (eb : b = nI (2 ^ (8 + k))) (er : r = c ||| b) {f : Int} (hf : 0 ≤ f ∧ f ≤ 5) : hbt r f ↔ (f = (k : Int) ∨ hbt c f) := by
  unfold hbt
  rw [er, bq_or, eb, bq_n, Nat.testBit_two_pow, decide_eq_true (show 8 + f.toNat < 32 by omega), Bool.true_and, Bool.or_eq_true, decide_eq_true_eq]
  constructor
  · intro h
    rcases h with h | h
    · exact Or.inr h
    · exact Or.inl (by omega)
  · intro h
    rcases h with h | h
    · exact Or.inr (by omega)
    · exact Or.inl h
theorem fl_off {c b y r : Int32} {k : Nat} (hk : k < 6) (eb : b = nI (2 ^ (8 + k))) (ey : y = b ^^^ (-1)) (er : r = c &&& y) {f : Int} (hf : 0 ≤ f ∧ f ≤ 5) : hbt r f ↔ (¬ f = (k : Int) ∧ hbt c f) := by
  have hm : ∀ k, k < 6 → ∀ i, i < 6 → bq (nI (2 ^ (8 + k)) ^^^ (-1)) (8 + i) = !decide (i = k) := by decide +kernel
  unfold hbt
  rw [er, bq_and, ey, eb, hm k hk f.toNat (by omega), Bool.and_eq_true]
  constructor
  · intro h
    exact ⟨fun e => absurd (h.2.symm.trans (congrArg Bool.not (decide_eq_true (show f.toNat = k by omega)))) (by decide +kernel), h.1⟩
  · intro h
    exact ⟨h.2, (congrArg Bool.not (decide_eq_false (show ¬ f.toNat = k by omega))).trans rfl⟩
theorem pl_hb {c r : Int32} {e b : Int} (hc : 0 ≤ c.toInt) (he : 0 ≤ e ∧ e ≤ 31) (hb_ : 0 ≤ b ∧ b ≤ 7) (er : r.toInt = c.toInt / 256 * 256 + e * 8 + b) {f : Int} (hf : 0 ≤ f ∧ f ≤ 5) : hbt r f ↔ hbt c f := by
  unfold hbt
  rw [bq_x (c := r) (by omega) (by omega), bq_x hc (by omega), show r.toInt.toNat = 2 ^ 8 * (c.toInt.toNat / 2 ^ 8) + (e * 8 + b).toNat by omega, Nat.testBit_two_pow_mul_add _ (show (e * 8 + b).toNat < 2 ^ 8 by omega), if_neg (by omega), Nat.testBit_div_two_pow, show 8 + f.toNat - 8 + 8 = 8 + f.toNat by omega]
/-- a cell without flags -/
theorem hb_0 {c : Int32} (h : 0 ≤ c.toInt ∧ c.toInt ≤ 255) {f : Int} (hf : 0 ≤ f ∧ f ≤ 5) : ¬ hbt c f := by
  unfold hbt
  rw [bq_x h.1 (by omega), Nat.testBit_lt_two_pow (Nat.lt_of_lt_of_le (show c.toInt.toNat < 2 ^ 8 by omega) (Nat.pow_le_pow_right (by omega) (by omega)))]
  intro w
  cases w
/-! decisions, as numbers -/
noncomputable def iV (P : Prop) (a b : Int) : Int := @ite Int P (Classical.propDecidable P) a b
theorem iV_y {P : Prop} {a b : Int} (h : P) : iV P a b = a := by unfold iV; rw [if_pos h]
theorem iV_n {P : Prop} {a b : Int} (h : ¬ P) : iV P a b = b := by unfold iV; rw [if_neg h]
theorem iV_d {P : Prop} {a b c : Int} (e : ¬ P → b = c) : iV P a b = iV P a c := by
  by_cases h : P
  · rw [iV_y h, iV_y h]
  · rw [iV_n h, iV_n h, e h]
/-! ways up, as far as a class looks -/
def ChB (k : Nat) (f : Int → Int) (x t : Int) : Prop := ∃ m : Nat, m < k ∧ itr f m x = t
theorem ChB_0 {f : Int → Int} {x t : Int} : ¬ ChB 0 f x t := fun ⟨_, h, _⟩ => Nat.not_lt_zero _ h
theorem ChB_h {k : Nat} {f : Int → Int} {x t : Int} (e : x = t) : ChB (k + 1) f x t := ⟨0, by omega, by show x = t; exact e⟩
theorem itr_s {f : Int → Int} {m : Nat} {x : Int} : itr f (m + 1) x = itr f m (f x) := by rw [show m + 1 = 1 + m by omega, itr_add]; rfl
theorem ChB_n {k : Nat} {f : Int → Int} {x t : Int} (e : ¬ x = t) : ChB (k + 1) f x t ↔ ChB k f (f x) t := by
  constructor
  · rintro ⟨m, h1, h2⟩
    cases m with
    | zero => exact absurd h2 e
    | succ m => exact ⟨m, by omega, by rw [← itr_s]; exact h2⟩
  · rintro ⟨m, h1, h2⟩
    exact ⟨m + 1, by omega, by rw [itr_s]; exact h2⟩
theorem itr_9 {f : Int → Int} (h : f (-9) = -9) : ∀ m, itr f m (-9) = -9 := by
  intro m
  induction m with
  | zero => rfl
  | succ m ih => rw [itr_s, h]; exact ih
theorem ChB_9 {k : Nat} {f : Int → Int} {t : Int} (h : f (-9) = -9) (ht : ¬ t = -9) : ¬ ChB k f (-9) t := by
  rintro ⟨m, _, h2⟩
  rw [itr_9 h] at h2
  exact ht h2.symm
/-- in view of s, with covers cv -/
def InB (k : Nat) (f : Int → Int) (cv : Int → Prop) (s x : Int) : Prop := ∃ m : Nat, m < k ∧ itr f m x = s ∧ ∀ j : Nat, j < m → ¬ itr f j x = s ∧ ¬ cv (itr f j x)
theorem InB_0 {f : Int → Int} {cv : Int → Prop} {s x : Int} : ¬ InB 0 f cv s x := fun ⟨_, h, _⟩ => Nat.not_lt_zero _ h
theorem InB_h {k : Nat} {f : Int → Int} {cv : Int → Prop} {s x : Int} (e : x = s) : InB (k + 1) f cv s x := ⟨0, by omega, by show x = s; exact e, fun j hj => absurd hj (Nat.not_lt_zero _)⟩
theorem InB_n {k : Nat} {f : Int → Int} {cv : Int → Prop} {s x : Int} (e : ¬ x = s) (hc : ¬ cv x) : InB (k + 1) f cv s x ↔ InB k f cv s (f x) := by
  constructor
  · rintro ⟨m, h1, h2, h3⟩
    cases m with
    | zero => exact absurd h2 e
    | succ m => exact ⟨m, by omega, by rw [← itr_s]; exact h2, fun j hj => by rw [← itr_s]; exact h3 (j + 1) (by omega)⟩
  · rintro ⟨m, h1, h2, h3⟩
    refine ⟨m + 1, by omega, by rw [itr_s]; exact h2, fun j hj => ?_⟩
    cases j with
    | zero => exact ⟨e, hc⟩
    | succ j => rw [itr_s]; exact h3 j (by omega)
theorem InB_c {k : Nat} {f : Int → Int} {cv : Int → Prop} {s x : Int} (e : ¬ x = s) (hc : cv x) : ¬ InB k f cv s x := by
  rintro ⟨m, h1, h2, h3⟩
  cases m with
  | zero => exact e h2
  | succ m => exact (h3 0 (by omega)).2 hc
theorem InB_9 {k : Nat} {f : Int → Int} {cv : Int → Prop} {s : Int} (h : f (-9) = -9) (ht : ¬ s = -9) : ¬ InB k f cv s (-9) := by
  rintro ⟨m, _, h2, _⟩
  rw [itr_9 h] at h2
  exact ht h2.symm
/-- the first that stops, as far as it is looked for -/
noncomputable def ShB (f : Int → Int) (st : Int → Prop) : Nat → Int → Int
  | 0, _ => -9
  | k + 1, x => iV (x = -9) (-9) (iV (st x) x (ShB f st k (f x)))
theorem ShB_9 {f : Int → Int} {st : Int → Prop} {k : Nat} : ShB f st k (-9) = -9 := by
  cases k with
  | zero => rfl
  | succ k => show iV _ _ _ = _; exact iV_y rfl
theorem ShB_y {f : Int → Int} {st : Int → Prop} {k : Nat} {x : Int} (h : ¬ x = -9) (hs : st x) : ShB f st (k + 1) x = x := by
  show iV _ _ (iV _ _ _) = _
  rw [iV_n h, iV_y hs]
theorem ShB_n {f : Int → Int} {st : Int → Prop} {k : Nat} {x : Int} (h : ¬ x = -9) (hs : ¬ st x) : ShB f st (k + 1) x = ShB f st k (f x) := by
  show iV _ _ (iV _ _ _) = _
  rw [iV_n h, iV_n hs]
/-! told with a loop's number -/
theorem ChB_e {f : Int → Int} {y z t : Int} {x : Int32} (hx : x.toInt = 0) (e : y = z) : ChB 30 f y t ↔ ChB (30 - x.toInt.toNat) f z t := by rw [show 30 - x.toInt.toNat = 30 by omega, e]
theorem ChB_s {P : Prop} {f : Int → Int} {o o2 t : Int} {x y : Int32} (h : P ↔ ChB (30 - x.toInt.toNat) f o t) (h0 : 0 ≤ x.toInt ∧ x.toInt < 30) (hy : y.toInt = x.toInt + 1) (hn : ¬ o = t) (hf : f o = o2) : P ↔ ChB (30 - y.toInt.toNat) f o2 t := h.trans (by rw [show 30 - x.toInt.toNat = (30 - y.toInt.toNat) + 1 by omega, ChB_n hn, hf])
theorem ChB_y {P : Prop} {f : Int → Int} {o t : Int} {x : Int32} (h : P ↔ ChB (30 - x.toInt.toNat) f o t) (h0 : 0 ≤ x.toInt ∧ x.toInt < 30) (e : o = t) : P := h.mpr (by rw [show 30 - x.toInt.toNat = (29 - x.toInt.toNat) + 1 by omega]; exact ChB_h e)
theorem ChB_x {P : Prop} {f : Int → Int} {o t : Int} {x : Int32} (h : P ↔ ChB (30 - x.toInt.toNat) f o t) (hx : 30 ≤ x.toInt ∨ o = -9) (hf : f (-9) = -9) (ht : ¬ t = -9) : ¬ P := by
  intro p
  have q := h.mp p
  rcases hx with hx | hx
  · rw [show 30 - x.toInt.toNat = 0 by omega] at q
    exact ChB_0 q
  · rw [hx] at q
    exact ChB_9 hf ht q
theorem ShB_e {f : Int → Int} {st : Int → Prop} {y z : Int} {x : Int32} (hx : x.toInt = 0) (e : y = z) : ShB f st 30 y = ShB f st (30 - x.toInt.toNat) z := by rw [show 30 - x.toInt.toNat = 30 by omega, e]
theorem ShB_s {f : Int → Int} {st : Int → Prop} {v o o2 : Int} {x y : Int32} (h : v = ShB f st (30 - x.toInt.toNat) o) (h0 : 0 ≤ x.toInt ∧ x.toInt < 30) (hy : y.toInt = x.toInt + 1) (h9 : ¬ o = -9) (hs : ¬ st o) (hf : f o = o2) : v = ShB f st (30 - y.toInt.toNat) o2 := h.trans (by rw [show 30 - x.toInt.toNat = (30 - y.toInt.toNat) + 1 by omega, ShB_n h9 hs, hf])
theorem ShB_r {f : Int → Int} {st : Int → Prop} {v o : Int} {x : Int32} (h : v = ShB f st (30 - x.toInt.toNat) o) (h0 : 0 ≤ x.toInt ∧ x.toInt < 30) (h9 : ¬ o = -9) (hs : st o) : o = v := by rw [h, show 30 - x.toInt.toNat = (29 - x.toInt.toNat) + 1 by omega, ShB_y h9 hs]
theorem ShB_z {f : Int → Int} {st : Int → Prop} {v o : Int} {x : Int32} (h : v = ShB f st (30 - x.toInt.toNat) o) (hx : 30 ≤ x.toInt ∨ o = -9) : -9 = v := by
  rw [h]
  rcases hx with hx | hx
  · rw [show 30 - x.toInt.toNat = 0 by omega]; rfl
  · rw [hx, ShB_9]
theorem InB_e {f : Int → Int} {cv : Int → Prop} {s y z : Int} {x : Int32} (hx : x.toInt = 0) (e : y = z) : InB 30 f cv s y ↔ InB (30 - x.toInt.toNat) f cv s z := by rw [show 30 - x.toInt.toNat = 30 by omega, e]
theorem InB_s {P : Prop} {f : Int → Int} {cv : Int → Prop} {s o o2 : Int} {x y : Int32} (h : P ↔ InB (30 - x.toInt.toNat) f cv s o) (h0 : 0 ≤ x.toInt ∧ x.toInt < 30) (hy : y.toInt = x.toInt + 1) (hn : ¬ o = s) (hc : ¬ cv o) (hf : f o = o2) : P ↔ InB (30 - y.toInt.toNat) f cv s o2 := h.trans (by rw [show 30 - x.toInt.toNat = (30 - y.toInt.toNat) + 1 by omega, InB_n hn hc, hf])
theorem InB_y {P : Prop} {f : Int → Int} {cv : Int → Prop} {s o : Int} {x : Int32} (h : P ↔ InB (30 - x.toInt.toNat) f cv s o) (h0 : 0 ≤ x.toInt ∧ x.toInt < 30) (e : o = s) : P := h.mpr (by rw [show 30 - x.toInt.toNat = (29 - x.toInt.toNat) + 1 by omega]; exact InB_h e)
theorem InB_x {P : Prop} {f : Int → Int} {cv : Int → Prop} {s o : Int} {x : Int32} (h : P ↔ InB (30 - x.toInt.toNat) f cv s o) (hx : 30 ≤ x.toInt ∨ o = -9 ∨ (¬ o = s ∧ cv o)) (hf : f (-9) = -9) (ht : ¬ s = -9) : ¬ P := by
  intro p
  have q := h.mp p
  rcases hx with hx | hx | hx
  · rw [show 30 - x.toInt.toNat = 0 by omega] at q
    exact InB_0 q
  · rw [hx] at q
    exact InB_9 hf ht q
  · exact InB_c hx.1 hx.2 q
/-- a bit of a cell -/
def bT (ce : Nat → Int32) (k x : Int) : Prop := hbt (ce x.toNat) k
def sD (f1 f2 : Nat → Int32) (s o : Int) : Prop := (f1 o.toNat).toInt = s ∨ (f2 o.toNat).toInt = s
/-! what is seen -/
def Cv (Z : Int → Int) (op gl : Int → Prop) (l : Prop) (x : Int) : Prop := Z x = 3 ∧ ¬ op x ∧ (l ∨ ¬ gl x)
def StpC (Z : Int → Int) (op gl : Int → Prop) (l : Prop) (x : Int) : Prop := Z x = 0 ∨ Cv Z op gl l x
noncomputable def shl (Z f : Int → Int) (op gl : Int → Prop) (l : Prop) (p : Int) : Int := ShB f (StpC Z op gl l) 30 (f p)
def Vw (Z f : Int → Int) (op gl : Int → Prop) (sd : Int → Int → Prop) (l : Prop) (s o : Int) : Prop := ¬ s = -9 ∧ ((o = s ∧ Z s = 3) ∨ (¬ o = s ∧ Z o = 2 ∧ sd s o) ∨ (¬ o = s ∧ ¬ Z o = 2 ∧ InB 30 f (Cv Z op gl l) s (f o)))
/-- he himself, and what is in view of the shell -/
def V1 (Z f : Int → Int) (op gl : Int → Prop) (sd : Int → Int → Prop) (l : Prop) (p o : Int) : Prop := o = p ∨ Vw Z f op gl sd l (shl Z f op gl l p) o
def BrM (Z f : Int → Int) (op gl lt : Int → Prop) (sd : Int → Int → Prop) (p m : Int) : Prop := (Z (shl Z f op gl ((1 : Int) ≤ 0) p) = 0 ∧ lt (shl Z f op gl ((1 : Int) ≤ 0) p)) ∨ ∃ o : Int, 0 ≤ o ∧ o < m ∧ V1 Z f op gl sd ((1 : Int) ≤ 0) p o ∧ lt o
def Own (f fm : Int → Int) (p o : Int) : Prop := f o = p ∧ (fm o = 2 ∨ fm o = 3)
def SnP (Z f fm : Int → Int) (op gl lt : Int → Prop) (sd : Int → Int → Prop) (p N o : Int) : Prop := Own f fm p o ∨ (BrM Z f op gl lt sd p N ∧ V1 Z f op gl sd ((1 : Int) ≤ 0) p o)
def RcP (Z f fm : Int → Int) (op gl lt : Int → Prop) (sd : Int → Int → Prop) (p N o : Int) : Prop := SnP Z f fm op gl lt sd p N o ∧ V1 Z f op gl sd ((1 : Int) ≤ 1) p o
def LkR (Z f fm : Int → Int) (op gl lt : Int → Prop) (sd : Int → Int → Prop) (p N : Int) (sn rc : Nat → Int32) (br : Int32) : Prop := Sm br (BrM Z f op gl lt sd p N) ∧ ∀ o : Nat, (o : Int) < N → Sm (sn o) (SnP Z f fm op gl lt sd p N o) ∧ Sm (rc o) (RcP Z f fm op gl lt sd p N o)
/-- the form of a place -/
def fX (ce : Nat → Int32) (x : Int) : Int := if 0 ≤ x ∧ x ≤ 29 ∧ ¬ (ce x.toNat).toInt % 256 = 255 then (ce x.toNat).toInt % 8 else -9
theorem fX_at {ce : Nat → Int32} {x r : Int32} (hx : 0 ≤ x.toInt ∧ x.toInt ≤ 29) (h : (r.toInt = -9 ∧ (ce x.toNatClampNeg).toInt % 256 = 255) ∨ (0 ≤ r.toInt ∧ r.toInt ≤ 4 ∧ ¬ (ce x.toNatClampNeg).toInt % 256 = 255 ∧ r.toInt = (ce x.toNatClampNeg).toInt % 8)) : fX ce x.toInt = r.toInt := by
  have e : x.toNatClampNeg = x.toInt.toNat := rfl
  rw [e] at h
  unfold fX
  rcases h with h | h
  · rw [if_neg (by omega)]; omega
  · rw [if_pos (by omega)]; omega
/-- something lies so -/
def lsP (ce : Nat → Int32) (f h : Int) (o : Nat) : Bool := decide ((ce o).toInt % 256 = h * 8 + f)
theorem lsP_y {ce : Nat → Int32} {f h : Int} {o : Nat} (e : (ce o).toInt % 256 = h * 8 + f) : lsP ce f h o = true := decide_eq_true (p := (ce o).toInt % 256 = h * 8 + f) e
theorem lsP_e {ce : Nat → Int32} {f h : Int} {o : Nat} (e : lsP ce f h o = true) : (ce o).toInt % 256 = h * 8 + f := of_decide_eq_true (p := (ce o).toInt % 256 = h * 8 + f) e
theorem cn_y {P : Nat → Bool} {x y k k2 : Int32} (h : k.toInt = ((cnt P x.toInt.toNat : Nat) : Int)) (h0 : 0 ≤ x.toInt) (hp : P x.toNatClampNeg = true) (hk : k2.toInt = k.toInt + 1) (hy : y.toInt = x.toInt + 1) : k2.toInt = ((cnt P y.toInt.toNat : Nat) : Int) := by
  rw [show y.toInt.toNat = x.toInt.toNat + 1 by omega]
  show k2.toInt = ((cnt P x.toInt.toNat + (if P x.toInt.toNat = true then 1 else 0) : Nat) : Int)
  rw [if_pos (show P x.toInt.toNat = true from hp)]; omega
theorem cn_n {P : Nat → Bool} {x y k : Int32} (h : k.toInt = ((cnt P x.toInt.toNat : Nat) : Int)) (h0 : 0 ≤ x.toInt) (hp : ¬ P x.toNatClampNeg = true) (hy : y.toInt = x.toInt + 1) : k.toInt = ((cnt P y.toInt.toNat : Nat) : Int) := by
  rw [show y.toInt.toNat = x.toInt.toNat + 1 by omega]
  show k.toInt = ((cnt P x.toInt.toNat + (if P x.toInt.toNat = true then 1 else 0) : Nat) : Int)
  rw [if_neg (show ¬ P x.toInt.toNat = true from hp)]; omega
/-! looking around: the two rows as they are filled -/
def LkA (V : Int → Prop) (sn : Nat → Int32) (m : Int) : Prop := ∀ o : Nat, (o : Int) < m → Sm (sn o) (V o)
theorem LkA_0 {V : Int → Prop} {sn : Nat → Int32} {x : Int32} (h : x.toInt = 0) : LkA V sn x.toInt := fun o ho => by omega
theorem LkA_s {V : Int → Prop} {sn : Nat → Int32} {x y z : Int32} (h : LkA V sn x.toInt) (h0 : 0 ≤ x.toInt) (hy : y.toInt = x.toInt + 1) (hz : Sm z (V x.toInt)) : LkA V (upd sn x.toNatClampNeg z) y.toInt := by
  intro o ho
  by_cases e : o = x.toNatClampNeg
  · rw [e, pk_us, cl_nn h0]; exact hz
  · rw [pk_un e]
    have q : x.toNatClampNeg = x.toInt.toNat := rfl
    exact h o (by omega)
def LkB (V S R : Int → Prop) (sn rc : Nat → Int32) (m N : Int) : Prop := ∀ o : Nat, (o : Int) < N → ((o : Int) < m → Sm (sn o) (S o) ∧ Sm (rc o) (R o)) ∧ (¬ (o : Int) < m → Sm (sn o) (V o))
theorem LkB_0 {V S R : Int → Prop} {sn rc : Nat → Int32} {x : Int32} {N : Int} (hx : x.toInt = 0) (h : LkA V sn N) : LkB V S R sn rc x.toInt N := fun o ho => ⟨fun q => by omega, fun _ => h o ho⟩
theorem LkB_s {V S R : Int → Prop} {sn rc : Nat → Int32} {x y z w : Int32} {N : Int} (h : LkB V S R sn rc x.toInt N) (h0 : 0 ≤ x.toInt) (hy : y.toInt = x.toInt + 1) (hz : Sm z (S x.toInt)) (hw : Sm w (R x.toInt)) : LkB V S R (upd sn x.toNatClampNeg z) (upd rc x.toNatClampNeg w) y.toInt N := by
  intro o ho
  have q : x.toNatClampNeg = x.toInt.toNat := rfl
  by_cases e : o = x.toNatClampNeg
  · rw [e, pk_us, pk_us, cl_nn h0]
    exact ⟨fun _ => ⟨hz, hw⟩, fun p => absurd p (by omega)⟩
  · rw [pk_un e, pk_un e]
    obtain ⟨a, b⟩ := h o ho
    exact ⟨fun p => a (by omega), fun p => b (by omega)⟩
theorem BrM_s {Z f : Int → Int} {op gl lt : Int → Prop} {sd : Int → Int → Prop} {p m : Int} {b b2 : Int32} (h : Sm b (BrM Z f op gl lt sd p m)) (hm : 0 ≤ m) (h2 : Sm b2 (b.toInt = 1 ∨ (V1 Z f op gl sd ((1 : Int) ≤ 0) p m ∧ lt m))) : Sm b2 (BrM Z f op gl lt sd p (m + 1)) := by
  have e : (b.toInt = 1 ∨ (V1 Z f op gl sd ((1 : Int) ≤ 0) p m ∧ lt m)) ↔ BrM Z f op gl lt sd p (m + 1) := by
    constructor
    · intro q
      rcases q with q | q
      · rcases h with h | h
        · rcases h.2 with w | ⟨o, o1, o2, o3⟩
          · exact Or.inl w
          · exact Or.inr ⟨o, o1, by omega, o3⟩
        · exfalso; omega
      · exact Or.inr ⟨m, hm, by omega, q⟩
    · intro q
      rcases q with q | ⟨o, o1, o2, o3⟩
      · rcases h with h | h
        · exact Or.inl h.1
        · exact absurd (Or.inl q) h.2
      · by_cases w : o = m
        · rw [w] at o3; exact Or.inr o3
        · rcases h with h | h
          · exact Or.inl h.1
          · exact absurd (Or.inr ⟨o, o1, by omega, o3⟩) h.2
  rcases h2 with h2 | h2
  · exact Or.inl ⟨h2.1, e.mp h2.2⟩
  · exact Or.inr ⟨h2.1, fun q => h2.2 (e.mpr q)⟩
theorem LkA_m {V : Int → Prop} {sn : Nat → Int32} {m N : Int} (h : LkA V sn m) (hl : N ≤ m) : LkA V sn N := fun o ho => h o (by omega)
theorem BrM_0 {Z f : Int → Int} {op gl lt : Int → Prop} {sd : Int → Int → Prop} {p : Int} {b x : Int32} (hx : x.toInt = 0) (h : Sm b (Z (shl Z f op gl ((1 : Int) ≤ 0) p) = 0 ∧ lt (shl Z f op gl ((1 : Int) ≤ 0) p))) : Sm b (BrM Z f op gl lt sd p x.toInt) := by
  rcases h with h | h
  · exact Or.inl ⟨h.1, Or.inl h.2⟩
  · refine Or.inr ⟨h.1, fun q => ?_⟩
    rcases q with q | ⟨o, o1, o2, _⟩
    · exact h.2 q
    · omega
/-- by whom something is held, worn -/
theorem hd_e {ce : Nat → Int32} {x p k : Int} (hx : 0 ≤ x ∧ x ≤ 29) (hp : 0 ≤ p ∧ p ≤ 29) (hk : 0 ≤ k ∧ k ≤ 4) : (ce x.toNat).toInt % 256 = p * 8 + k ↔ (hF ce x = p ∧ fX ce x = k) := by
  unfold hF fX
  by_cases q : (ce x.toNat).toInt % 256 = 255
  · rw [if_neg (fun w => w.2.2 q), if_neg (fun w => w.2.2 q)]
    omega
  · rw [if_pos ⟨hx.1, hx.2, q⟩, if_pos ⟨hx.1, hx.2, q⟩]
    omega
theorem Own_e {ce : Nat → Int32} {x p : Int} (hx : 0 ≤ x ∧ x ≤ 29) (hp : 0 ≤ p ∧ p ≤ 29) : Own (hF ce) (fX ce) p x ↔ ((ce x.toNat).toInt % 256 = p * 8 + 2 ∨ (ce x.toNat).toInt % 256 = p * 8 + 3) := by
  rw [hd_e hx hp (k := 2) (by omega), hd_e hx hp (k := 3) (by omega)]
  unfold Own
  constructor
  · rintro ⟨a, b | b⟩
    · exact Or.inl ⟨a, b⟩
    · exact Or.inr ⟨a, b⟩
  · rintro (⟨a, b⟩ | ⟨a, b⟩)
    · exact ⟨a, Or.inl b⟩
    · exact ⟨a, Or.inr b⟩
/-! reasons -/
def Hd (f fm : Int → Int) (p x : Int) : Prop := f x = p ∧ fm x = 2
def ByR (Z f fm : Int → Int) (p : Int) : Prop := fm p = 0 ∧ Z (f p) = 0
noncomputable def goV (bw : Prop) (ld dr : Int) (op : Int → Prop) : Int := iV (¬ bw) 1 (iV (ld = -9) 2 (iV (¬ dr = -9 ∧ ¬ op dr) 3 0))
noncomputable def takeV (sn up hd bad rc an ov : Prop) : Int := iV (¬ sn) 4 (iV up 5 (iV hd 6 (iV bad 7 (iV (¬ rc) 8 (iV an 9 (iV ov 10 0))))))
noncomputable def putV (sn fit slf cl rc ful : Prop) : Int := iV (¬ sn) 4 (iV (¬ fit) 12 (iV slf 13 (iV cl 3 (iV (¬ rc) 8 (iV ful 14 0)))))
noncomputable def leafV (v : Int) (op lk : Prop) (k : Int) : Int := if v = 5 then iV op 15 (iV lk 16 k) else if v = 6 then iV (¬ op) 3 k else if v = 7 then iV (¬ lk) 17 k else iV lk 16 (iV op 15 k)
noncomputable def shutV (v : Int) (sn sh op lk rc : Prop) (k : Int) : Int := iV (¬ sn) 4 (iV (¬ sh) 12 (leafV v op lk (iV (¬ rc) 8 k)))
noncomputable def keyV (hd ky : Prop) : Int := iV (¬ hd) 11 (iV (¬ ky) 18 0)
noncomputable def wearV (hd gm : Prop) : Int := iV (¬ hd) 11 (iV (¬ gm) 19 0)
noncomputable def enterV (sn fit up cl rc at_ : Prop) : Int := iV (¬ sn) 4 (iV (¬ fit) 12 (iV up 13 (iV cl 3 (iV (¬ rc) 8 (iV at_ 20 0)))))
noncomputable def leaveV (bw cl fo : Prop) : Int := iV bw 1 (iV cl 3 (iV (¬ fo) 21 0))
/-- another person on the way up -/
def AnB (Z f : Int → Int) (p : Int) (k : Nat) (x : Int) : Prop := ∃ m : Nat, m < k ∧ ¬ itr f m x = p ∧ Z (itr f m x) = 5 ∧ ∀ j : Nat, j ≤ m → ¬ itr f j x = -9
theorem AnB_e {Z f : Int → Int} {p y z : Int} {x : Int32} (hx : x.toInt = 0) (e : y = z) : AnB Z f p 30 y ↔ AnB Z f p (30 - x.toInt.toNat) z := by rw [show 30 - x.toInt.toNat = 30 by omega, e]
theorem AnB_n {Z f : Int → Int} {p x : Int} {k : Nat} (h9 : ¬ x = -9) (hn : ¬ (¬ x = p ∧ Z x = 5)) : AnB Z f p (k + 1) x ↔ AnB Z f p k (f x) := by
  constructor
  · rintro ⟨m, h1, h2, h3, h4⟩
    cases m with
    | zero => exact absurd ⟨h2, h3⟩ hn
    | succ m => exact ⟨m, by omega, by rw [← itr_s]; exact h2, by rw [← itr_s]; exact h3, fun j hj => by rw [← itr_s]; exact h4 (j + 1) (by omega)⟩
  · rintro ⟨m, h1, h2, h3, h4⟩
    refine ⟨m + 1, by omega, by rw [itr_s]; exact h2, by rw [itr_s]; exact h3, fun j hj => ?_⟩
    cases j with
    | zero => exact h9
    | succ j => rw [itr_s]; exact h4 j (by omega)
theorem AnB_s {P : Prop} {Z f : Int → Int} {p o o2 : Int} {x y : Int32} (h : P ↔ AnB Z f p (30 - x.toInt.toNat) o) (h0 : 0 ≤ x.toInt ∧ x.toInt < 30) (hy : y.toInt = x.toInt + 1) (h9 : ¬ o = -9) (hn : ¬ (¬ o = p ∧ Z o = 5)) (hf : f o = o2) : P ↔ AnB Z f p (30 - y.toInt.toNat) o2 := h.trans (by rw [show 30 - x.toInt.toNat = (30 - y.toInt.toNat) + 1 by omega, AnB_n h9 hn, hf])
theorem AnB_y {P : Prop} {Z f : Int → Int} {p o : Int} {x : Int32} (h : P ↔ AnB Z f p (30 - x.toInt.toNat) o) (h0 : 0 ≤ x.toInt ∧ x.toInt < 30) (h9 : ¬ o = -9) (hn : ¬ o = p ∧ Z o = 5) : P := h.mpr ⟨0, by omega, hn.1, hn.2, fun j hj => by rw [show j = 0 by omega]; exact h9⟩
theorem AnB_x {P : Prop} {Z f : Int → Int} {p o : Int} {x : Int32} (h : P ↔ AnB Z f p (30 - x.toInt.toNat) o) (hx : 30 ≤ x.toInt ∨ o = -9) : ¬ P := by
  intro q
  obtain ⟨m, h1, _, _, h4⟩ := h.mp q
  rcases hx with hx | hx
  · omega
  · exact h4 0 (by omega) hx
theorem sm_nz {r : Int32} {P : Prop} (h : Sm r P) : (¬ r.toInt = 0) ↔ P := by
  rcases h with h | h
  · exact ⟨fun _ => h.2, fun _ => by omega⟩
  · exact ⟨fun q => absurd h.1 q, fun q => absurd q h.2⟩
theorem leafV_k {v : Int} {op lk : Prop} {k : Int} : (leafV v op lk 0 = 0 ∧ leafV v op lk k = k) ∨ (¬ leafV v op lk 0 = 0 ∧ leafV v op lk k = leafV v op lk 0) := by
  unfold leafV
  by_cases q5 : v = 5
  · simp only [if_pos q5]
    by_cases a : op
    · simp only [iV_y a]; first | exact Or.inr ⟨by decide, rfl⟩ | exact Or.inl ⟨rfl, rfl⟩ | exact Or.inr ⟨by decide, trivial⟩ | exact Or.inl ⟨trivial, trivial⟩ | simp
    · simp only [iV_n a]
      by_cases b : lk
      · simp only [iV_y b]; first | exact Or.inr ⟨by decide, rfl⟩ | exact Or.inl ⟨rfl, rfl⟩ | exact Or.inr ⟨by decide, trivial⟩ | exact Or.inl ⟨trivial, trivial⟩ | simp
      · simp only [iV_n b]; first | exact Or.inr ⟨by decide, rfl⟩ | exact Or.inl ⟨rfl, rfl⟩ | exact Or.inr ⟨by decide, trivial⟩ | exact Or.inl ⟨trivial, trivial⟩ | simp
  · simp only [if_neg q5]
    by_cases q6 : v = 6
    · simp only [if_pos q6]
      by_cases a : ¬ op
      · simp only [iV_y a]; first | exact Or.inr ⟨by decide, rfl⟩ | exact Or.inl ⟨rfl, rfl⟩ | exact Or.inr ⟨by decide, trivial⟩ | exact Or.inl ⟨trivial, trivial⟩ | simp
      · simp only [iV_n a]; first | exact Or.inr ⟨by decide, rfl⟩ | exact Or.inl ⟨rfl, rfl⟩ | exact Or.inr ⟨by decide, trivial⟩ | exact Or.inl ⟨trivial, trivial⟩ | simp
    · simp only [if_neg q6]
      by_cases q7 : v = 7
      · simp only [if_pos q7]
        by_cases a : ¬ lk
        · simp only [iV_y a]; first | exact Or.inr ⟨by decide, rfl⟩ | exact Or.inl ⟨rfl, rfl⟩ | exact Or.inr ⟨by decide, trivial⟩ | exact Or.inl ⟨trivial, trivial⟩ | simp
        · simp only [iV_n a]; first | exact Or.inr ⟨by decide, rfl⟩ | exact Or.inl ⟨rfl, rfl⟩ | exact Or.inr ⟨by decide, trivial⟩ | exact Or.inl ⟨trivial, trivial⟩ | simp
      · simp only [if_neg q7]
        by_cases b : lk
        · simp only [iV_y b]; first | exact Or.inr ⟨by decide, rfl⟩ | exact Or.inl ⟨rfl, rfl⟩ | exact Or.inr ⟨by decide, trivial⟩ | exact Or.inl ⟨trivial, trivial⟩ | simp
        · simp only [iV_n b]
          by_cases a : op
          · simp only [iV_y a]; first | exact Or.inr ⟨by decide, rfl⟩ | exact Or.inl ⟨rfl, rfl⟩ | exact Or.inr ⟨by decide, trivial⟩ | exact Or.inl ⟨trivial, trivial⟩ | simp
          · simp only [iV_n a]; first | exact Or.inr ⟨by decide, rfl⟩ | exact Or.inl ⟨rfl, rfl⟩ | exact Or.inr ⟨by decide, trivial⟩ | exact Or.inl ⟨trivial, trivial⟩ | simp
theorem leafV_n {v : Int} {op lk : Prop} {k : Int} (h : ¬ leafV v op lk 0 = 0) : leafV v op lk k = leafV v op lk 0 := by
  rcases leafV_k (v := v) (op := op) (lk := lk) (k := k) with w | w
  · exact absurd w.1 h
  · exact w.2
theorem leafV_0 {v : Int} {op lk : Prop} {k : Int} (h : leafV v op lk 0 = 0) : leafV v op lk k = k := by
  rcases leafV_k (v := v) (op := op) (lk := lk) (k := k) with w | w
  · exact w.2
  · exact absurd h w.1
def kyV (kb A : Nat → Int32) (x : Int) : Int := if (kb x.toNat).toInt = -9 then -9 else (A (kb x.toNat).toNatClampNeg).toInt
theorem zX_i {so ko : Nat → Int32} {N x : Int} (h : 0 ≤ x ∧ x < N) : zX so ko N x = (so (ko x.toNat).toNatClampNeg).toInt := if_pos h
/-! bulks, as numbers of 32 bits -/
def sumI (g : Nat → Int32) : Nat → Int32
  | 0 => 0
  | n + 1 => sumI g n + g n
theorem sumI_y {g : Nat → Int32} {x y s s2 r : Int32} (h : s = sumI g x.toInt.toNat) (h0 : 0 ≤ x.toInt) (hy : y.toInt = x.toInt + 1) (hg : g x.toInt.toNat = r) (hs : s2 = s + r) : s2 = sumI g y.toInt.toNat := by
  rw [show y.toInt.toNat = x.toInt.toNat + 1 by omega, hs, h, ← hg]
  rfl
theorem sumI_n {g : Nat → Int32} {x y s : Int32} (h : s = sumI g x.toInt.toNat) (h0 : 0 ≤ x.toInt) (hy : y.toInt = x.toInt + 1) (hg : g x.toInt.toNat = 0) : s = sumI g y.toInt.toNat := by
  rw [show y.toInt.toNat = x.toInt.toNat + 1 by omega, h]
  show sumI g x.toInt.toNat = sumI g x.toInt.toNat + g x.toInt.toNat
  rw [hg]
  exact (Int32.add_zero _).symm
def wtB (Z : Int → Int) (sz : Nat → Int32) (ls : Int → Int → Nat → Bool) (N : Nat) : Nat → Nat → Int32
  | 0, _ => 0
  | k + 1, o => if Z (o : Int) = 3 then sz o + sumI (fun x => if ls 0 (o : Int) x = true then wtB Z sz ls N k x else 0) N else if Z (o : Int) = 4 then sz o + sumI (fun x => if ls 1 (o : Int) x = true then wtB Z sz ls N k x else 0) N else if Z (o : Int) = 2 then (if (sz o).toInt = 0 then -9 else 100 / sz o) else if Z (o : Int) = 5 then 2 * sz o else sz o
theorem wtB_3 {Z : Int → Int} {sz : Nat → Int32} {ls : Int → Int → Nat → Bool} {N k : Nat} {w : Int} (h : Z ((w.toNat : Nat) : Int) = 3) : wtB Z sz ls N (k + 1) w.toNat = sz w.toNat + sumI (fun x => if ls 0 ((w.toNat : Nat) : Int) x = true then wtB Z sz ls N k x else 0) N := if_pos h
theorem wtB_4 {Z : Int → Int} {sz : Nat → Int32} {ls : Int → Int → Nat → Bool} {N k : Nat} {w : Int} (h : Z ((w.toNat : Nat) : Int) = 4) : wtB Z sz ls N (k + 1) w.toNat = sz w.toNat + sumI (fun x => if ls 1 ((w.toNat : Nat) : Int) x = true then wtB Z sz ls N k x else 0) N := by
  show (if _ then _ else _) = _
  rw [if_neg (by omega), if_pos h]
theorem wtB_d0 {Z : Int → Int} {sz : Nat → Int32} {ls : Int → Int → Nat → Bool} {N k : Nat} {w : Int} (h : Z ((w.toNat : Nat) : Int) = 2) (hs : (sz w.toNat).toInt = 0) : wtB Z sz ls N (k + 1) w.toNat = -9 := by
  show (if _ then _ else _) = _
  rw [if_neg (by omega), if_neg (by omega), if_pos h, if_pos hs]
theorem wtB_d {Z : Int → Int} {sz : Nat → Int32} {ls : Int → Int → Nat → Bool} {N k : Nat} {w : Int} (h : Z ((w.toNat : Nat) : Int) = 2) (hs : ¬ (sz w.toNat).toInt = 0) : wtB Z sz ls N (k + 1) w.toNat = 100 / sz w.toNat := by
  show (if _ then _ else _) = _
  rw [if_neg (by omega), if_neg (by omega), if_pos h, if_neg hs]
theorem wtB_5 {Z : Int → Int} {sz : Nat → Int32} {ls : Int → Int → Nat → Bool} {N k : Nat} {w : Int} (h : Z ((w.toNat : Nat) : Int) = 5) : wtB Z sz ls N (k + 1) w.toNat = 2 * sz w.toNat := by
  show (if _ then _ else _) = _
  rw [if_neg (by omega), if_neg (by omega), if_neg (by omega), if_pos h]
theorem wtB_e {Z : Int → Int} {sz : Nat → Int32} {ls : Int → Int → Nat → Bool} {N k : Nat} {w : Int} (h3 : ¬ Z ((w.toNat : Nat) : Int) = 3) (h4 : ¬ Z ((w.toNat : Nat) : Int) = 4) (h2 : ¬ Z ((w.toNat : Nat) : Int) = 2) (h5 : ¬ Z ((w.toNat : Nat) : Int) = 5) : wtB Z sz ls N (k + 1) w.toNat = sz w.toNat := by
  show (if _ then _ else _) = _
  rw [if_neg h3, if_neg h4, if_neg h2, if_neg h5]
/-- all bits of a cell but one are as they were -/
def FlB (c r : Int32) (k : Int) (on : Prop) : Prop := ∀ f : Int, 0 ≤ f → f ≤ 5 → (hbt r f ↔ ((f = k ∧ on) ∨ (¬ f = k ∧ hbt c f)))
theorem FlB_on {c b r : Int32} {k : Nat} {e : Int} {on : Prop} (hk : k < 6) (eb : b = nI (2 ^ (8 + k))) (er : r = c ||| b) (ek : (k : Int) = e) (ho : on) : FlB c r e on := by
  intro f h0 h5
  rw [fl_on hk eb er ⟨h0, h5⟩, ek]
  constructor
  · intro h
    by_cases q : f = e
    · exact Or.inl ⟨q, ho⟩
    · rcases h with h | h
      · exact absurd h q
      · exact Or.inr ⟨q, h⟩
  · intro h
    rcases h with h | h
    · exact Or.inl h.1
    · exact Or.inr h.2
theorem FlB_off {c b y r : Int32} {k : Nat} {e : Int} {on : Prop} (hk : k < 6) (eb : b = nI (2 ^ (8 + k))) (ey : y = b ^^^ (-1)) (er : r = c &&& y) (ek : (k : Int) = e) (ho : ¬ on) : FlB c r e on := by
  intro f h0 h5
  rw [fl_off hk eb ey er ⟨h0, h5⟩, ek]
  constructor
  · intro h
    exact Or.inr h
  · intro h
    rcases h with h | h
    · exact absurd h.2 ho
    · exact h
def rxV (v go tk hd sh wr en lv : Int) : Int := if v = 0 then go else if v = 1 then tk else if v = 2 ∨ v = 3 ∨ v = 4 then hd else if 5 ≤ v ∧ v ≤ 8 then sh else if v = 9 then wr else if v = 10 then en else if v = 11 then lv else 0
def ryV (v pi po ky : Int) : Int := if v = 3 then pi else if v = 4 then po else if v = 7 ∨ v = 8 then ky else 0
theorem FlB_c {c r : Int32} {k : Int} {on on2 : Prop} (h : FlB c r k on) (e : on ↔ on2) : FlB c r k on2 := by rw [← propext e]; exact h
/-- whose cell an act changes, and what it is then -/
def sbI (v : Int) (p x : Int32) : Int32 := if v = 0 ∨ 10 ≤ v then p else x
theorem sbI_e {v : Int} {p x r : Int32} (h : (r.toInt = p.toInt ∧ (v = 0 ∨ 10 ≤ v)) ∨ (r.toInt = x.toInt ∧ ¬ (v = 0 ∨ 10 ≤ v))) : r = sbI v p x := by
  unfold sbI
  rcases h with h | h
  · rw [if_pos h.2]; exact Int32.toInt_inj.mp h.1
  · rw [if_neg h.2]; exact Int32.toInt_inj.mp h.1
def plF (v : Int) (Z fm f : Int → Int) (p x : Int) : Int := if v = 0 then 0 else if v = 1 then 2 else if v = 2 then fm p else if v = 3 then 0 else if v = 4 then 1 else if v = 9 then 3 else if v = 10 then (if Z x = 3 then 0 else 1) else fm (f p)
def plH (v : Int) (f : Int → Int) (p ld x y : Int) : Int := if v = 0 then ld else if v = 1 ∨ v = 9 then p else if v = 2 then f p else if v = 3 ∨ v = 4 then y else if v = 10 then x else f (f p)
def OuR (v : Int) (c r : Int32) (f h : Int) : Prop := ((v ≤ 4 ∨ (9 ≤ v ∧ v ≤ 11)) ∧ r.toInt = c.toInt / 256 * 256 + h * 8 + f) ∨ ((v = 5 ∨ v = 6) ∧ r.toInt % 256 = c.toInt % 256 ∧ FlB c r 0 (v = 5)) ∨ ((v = 7 ∨ v = 8) ∧ r.toInt % 256 = c.toInt % 256 ∧ FlB c r 1 (v = 8)) ∨ (v = 12 ∧ r = c)
/-! cells as they are said -/
def CeL (bk : Nat → Int32) : Prop := ∀ o : Nat, o < 30 → 0 ≤ (bk o).toInt ∧ (bk o).toInt ≤ 255
def CaB (c : Int32) (Q : Int → Prop) (m : Int) : Prop := ∀ f : Int, 0 ≤ f → f ≤ 5 → (hbt c f ↔ (f < m ∧ Q f))
theorem CaB_0 {c x : Int32} {Q : Int → Prop} (hc : 0 ≤ c.toInt ∧ c.toInt ≤ 255) (hx : x.toInt = 0) : CaB c Q x.toInt := fun f h0 h5 => ⟨fun h => absurd h (hb_0 hc ⟨h0, h5⟩), fun h => by have := h.1; omega⟩
theorem CaB_n {c x y : Int32} {Q : Int → Prop} (h : CaB c Q x.toInt) (h0 : 0 ≤ x.toInt) (hy : y.toInt = x.toInt + 1) (hq : ¬ Q x.toInt) : CaB c Q y.toInt := by
  intro f f0 f5
  rw [h f f0 f5]
  constructor
  · intro w
    exact ⟨by omega, w.2⟩
  · intro w
    refine ⟨?_, w.2⟩
    by_cases e : f = x.toInt
    · rw [e] at w; exact absurd w.2 hq
    · omega
theorem CaB_y {c r x y : Int32} {Q : Int → Prop} {on : Prop} (h : CaB c Q x.toInt) (hF : FlB c r x.toInt on) (h0 : 0 ≤ x.toInt) (hy : y.toInt = x.toInt + 1) (e : on ↔ Q x.toInt) : CaB r Q y.toInt := by
  intro f f0 f5
  rw [hF f f0 f5, h f f0 f5]
  constructor
  · intro w
    rcases w with w | w
    · rw [w.1]; exact ⟨by omega, e.mp w.2⟩
    · exact ⟨by omega, w.2.2⟩
  · intro w
    by_cases q : f = x.toInt
    · rw [q] at w; exact Or.inl ⟨q, e.mpr w.2⟩
    · exact Or.inr ⟨q, by omega, w.2⟩
def StC (ce0 ce bk : Nat → Int32) (Q : Int → Int → Prop) (m : Int) : Prop := ∀ o : Nat, ((o : Int) < m → (ce o).toInt % 256 = (bk o).toInt % 256 ∧ CaB (ce o) (Q o) 6) ∧ (¬ (o : Int) < m → ce o = ce0 o)
theorem StC_0 {ce bk : Nat → Int32} {Q : Int → Int → Prop} {x : Int32} (h : x.toInt = 0) : StC ce ce bk Q x.toInt := fun o => ⟨fun q => by omega, fun _ => rfl⟩
theorem StC_s {ce0 ce bk : Nat → Int32} {Q : Int → Int → Prop} {x y r : Int32} (h : StC ce0 ce bk Q x.toInt) (h0 : 0 ≤ x.toInt) (hy : y.toInt = x.toInt + 1) (h1 : r.toInt % 256 = (bk x.toNatClampNeg).toInt % 256) (h2 : CaB r (Q x.toInt) 6) : StC ce0 (upd ce x.toNatClampNeg r) bk Q y.toInt := by
  intro o
  have q : x.toNatClampNeg = x.toInt.toNat := rfl
  by_cases e : o = x.toNatClampNeg
  · rw [e, pk_us, cl_nn h0]
    exact ⟨fun _ => ⟨h1, h2⟩, fun p => absurd p (by omega)⟩
  · rw [pk_un e]
    exact ⟨fun p => (h o).1 (by omega), fun p => (h o).2 (by omega)⟩
theorem StC_m {ce0 ce bk : Nat → Int32} {Q : Int → Int → Prop} {m N : Int} (h : StC ce0 ce bk Q m) (h1 : m ≤ N) (h2 : N ≤ m) : StC ce0 ce bk Q N := by
  rw [show N = m by omega]
  exact h
theorem SgX_f {fb C : Nat → Int32} {o f v r : Int} (h : SgX fb C o f v r) : r = sgX fb C o f v := by
  unfold sgX
  rcases h with h | h
  · rw [if_pos h.1]; exact h.2
  · rw [if_neg h.1]; exact h.2
def plV (rx ry : Int) : Int := if rx = 0 then ry else rx
def IsA (v x y N : Int) : Prop := 0 ≤ v ∧ v ≤ 12 ∧ (v = 0 → 0 ≤ x ∧ x ≤ 9) ∧ (1 ≤ v ∧ v ≤ 10 → 0 ≤ x ∧ x < N) ∧ (v = 3 ∨ v = 4 ∨ v = 7 ∨ v = 8 → 0 ≤ y ∧ y < N)
def AaR (Q : Prop) (tu th why r : Int) : Prop := (¬ Q ∧ r = -1) ∨ (Q ∧ 100 ≤ tu ∧ r = -2) ∨ (Q ∧ tu ≤ 99 ∧ ¬ th = 1 ∧ r = -5) ∨ (Q ∧ tu ≤ 99 ∧ th = 1 ∧ r = why)
def AsR (X Y S : Prop) : Prop := (¬ X ∧ S) ∨ (X ∧ Y)
theorem sm_fp {r : Int32} {P Q : Prop} [Decidable P] (h : r = if P then 1 else 0) (e : P ↔ Q) : Sm r Q := by
  by_cases q : P
  · rw [if_pos q] at h; rw [h]; exact sm_1 (e.mp q)
  · rw [if_neg q] at h; rw [h]; exact sm_0 (fun w => q (e.mpr w))

def wm_X6_lies_eTS : List Cond := .code yX6_lies cX6_lies 4 (some .boolean) :: (([.fieldLink RX6 9 "TalePlay$Scene" "cells" "[I"] : List Cond) ++ wsX60)
set_option maxHeartbeats 4000000 in
set_option maxRecDepth 100000 in
theorem x_X6_lies_eTS (l : Launch) (D : va_G) (sz : Nat) (sk : Value) (a : Nat → Nat) (t : Nat → ClassId) (i : Nat → Int32) (q : Int64) (c : Nat → Nat → Int32) (d : Nat → Nat → Int64) (w : Int32) (f : Int32) (w2 : Int32) (hI : xInv i c) (hw : 0 ≤ w.toInt ∧ w.toInt ≤ 29) (hf : 0 ≤ f.toInt ∧ f.toInt ≤ 7) (hw2 : 0 ≤ w2.toInt ∧ w2.toInt ≤ 31) : Met l yX6_lies wm_X6_lies_eTS ({ frames := 0, cells := 0, slots := 0, locals := 0 }) (va_Pc [.ref (a 149), .int w, .int f, .int w2] (yA (a 186) D sz (xwP1 sk a t i q c d) (xtP1 t))) (va_Qi (fun (r : Int32) (_ : Unit) => ((0 ≤ r.toInt ∧ r.toInt ≤ 1) ∧ (Sm r ((c 150 w.toInt.toNat).toInt % 256 = w2.toInt * 8 + f.toInt)))) oA (ro sz)) 0 0 (ro sz) := by
  refine Met.ofW (cc := cX6_lies) (maxL := 4) (ret := (some .boolean)) (by decide +kernel) rfl ?_
  intro p e s m args below meth cd s₁ B hml hv
  obtain ⟨rfl, ⟨hsz, hP, hK⟩, hN, hZ⟩ := hv
  have hx := B.exec
  have hb := B.bytes
  have hr := B.returns
  have hts := atoms_spec (ws := wm_X6_lies_eTS) B.pre
  have hown : s.vm.findClass RX6 = some m.cls := findClass_of_methodNamed B.named
  have hlocks := B.notSynchronized
  subst hsz
  have hA : ∀ q : Nat, s.heap.size ≤ q → ro s.heap.size q := fun _ h => h
  have hS : va_S (ro s.heap.size) s.heap s.heap [] := va_S.rf
  have hl := lv_entry ([.ref (a 149), .int w, .int f, .int w2]) (n := 4) (Nat.le_of_ble_eq_true rfl)
  rw [lg_entry_eq]
  generalize (lg_sl ([.ref (a 149), .int w, .int f, .int w2]) ++ List.replicate (4 - (lg_sl ([.ref (a 149), .int w, .int f, .int w2])).length) Slot.unset).toArray = ls at hl ⊢
  have hl : lv_has ls 4 [(0, .ref (a 149)), (1, .int w), (2, .int f), (3, .int w2)] := hl
  refine lv_aload_n hx hb dX6_lies_0 rfl (lv_at hl 0 rfl) ?_
  refine xgP1_TS_cells hx hb hts (fun _ h => List.mem_cons_of_mem _ (List.mem_append_right _ h)) hown hK hP (hts (.fieldLink RX6 9 "TalePlay$Scene" "cells" "[I") (List.mem_cons_of_mem _ (List.mem_append_left _ (List.mem_of_getElem? (i := 0) rfl)))) dX6_lies_1 ?_
  refine lv_iload_n hx hb dX6_lies_4 rfl (lv_at hl 1 rfl) ?_
  refine xlP1_150 hx hb hK hP (vp_in_iff.mpr (by have h9 : w.toInt = w.toInt := rfl; omega)) dX6_lies_5 (fun x1 ex1 => ?_)
  have rx1 : 0 ≤ x1.toInt ∧ x1.toInt ≤ 16383 ∧ (x1.toInt % 256 = 255 ∨ (x1.toInt % 8 ≤ 4 ∧ x1.toInt / 8 % 32 ≤ 29)) := by rw [ex1]; exact hI.2 150 _
  have gx1 : (c 150 (w : Int32).toNatClampNeg).toInt = x1.toInt := (congrArg Int32.toInt ex1).symm
  refine lv_sipush (v := 255) hx hb dX6_lies_6 (by decide +kernel) ?_
  refine lv_iand hx hb dX6_lies_9 ?_
  refine lv_topi (fun x2 ex2 => ?_)
  have bx2 := and255 (by omega) ex2
  refine lv_iload_n hx hb dX6_lies_10 rfl (lv_at hl 3 rfl) ?_
  refine lv_iconst (v := 3) hx hb dX6_lies_11 (by decide +kernel) ?_
  refine lv_ishl hx hb dX6_lies_12 ?_
  refine lv_topi (fun x3 ex3 => ?_)
  refine lv_iload_n hx hb dX6_lies_13 rfl (lv_at hl 2 rfl) ?_
  refine lv_ior hx hb dX6_lies_14 ?_
  refine lv_topi (fun x4 ex4 => ?_)
  have bx4 := lies_c (h := w2) (f := f) (by omega) (by omega) ex3 ex4
  refine lv_icmp_ne (tgt := 22) hx hb dX6_lies_15 (by decide +kernel) (fun c5 => ?_) (fun c5 => ?_)
  · have f5 := mt (ti_eq (a := (x1.toInt % 256)) (b := (w2.toInt * 8 + f.toInt)) bx2 bx4).mpr c5
    refine lv_iconst (v := 0) hx hb dX6_lies_22 (by decide +kernel) ?_
    exact ro_zret hx hb hr hlocks hS rfl dX6_lies_23 ⟨(show 0 ≤ (0 : Int32).toInt ∧ (0 : Int32).toInt ≤ 1 from by decide +kernel), (show Sm (0 : Int32) ((c 150 w.toInt.toNat).toInt % 256 = w2.toInt * 8 + f.toInt) from sm_0 (by have h9 : (c 150 w.toInt.toNat).toInt = x1.toInt := gx1; omega))⟩
  · have f5 := (ti_eq (a := (x1.toInt % 256)) (b := (w2.toInt * 8 + f.toInt)) bx2 bx4).mp c5
    refine lv_iconst (v := 1) hx hb dX6_lies_18 (by decide +kernel) ?_
    refine lv_goto (tgt := 23) hx hb dX6_lies_19 (by decide +kernel) ?_
    exact ro_zret hx hb hr hlocks hS rfl dX6_lies_23 ⟨(show 0 ≤ (1 : Int32).toInt ∧ (1 : Int32).toInt ≤ 1 from by decide +kernel), (show Sm (1 : Int32) ((c 150 w.toInt.toNat).toInt % 256 = w2.toInt * 8 + f.toInt) from sm_1 (by have h9 : (c 150 w.toInt.toNat).toInt = x1.toInt := gx1; omega))⟩

def wm_X6_has_eTS : List Cond := .code yX6_has cX6_has 3 (some .boolean) :: (([.fieldLink RX6 9 "TalePlay$Scene" "cells" "[I"] : List Cond) ++ wsX60)
set_option maxHeartbeats 4000000 in
set_option maxRecDepth 100000 in
theorem x_X6_has_eTS (l : Launch) (D : va_G) (sz : Nat) (sk : Value) (a : Nat → Nat) (t : Nat → ClassId) (i : Nat → Int32) (q : Int64) (c : Nat → Nat → Int32) (d : Nat → Nat → Int64) (w : Int32) (f : Int32) (hI : xInv i c) (hw : 0 ≤ w.toInt ∧ w.toInt ≤ 29) (hf : 0 ≤ f.toInt ∧ f.toInt ≤ 5) : Met l yX6_has wm_X6_has_eTS ({ frames := 0, cells := 0, slots := 0, locals := 0 }) (va_Pc [.ref (a 149), .int w, .int f] (yA (a 186) D sz (xwP1 sk a t i q c d) (xtP1 t))) (va_Qi (fun (r : Int32) (_ : Unit) => ((0 ≤ r.toInt ∧ r.toInt ≤ 1) ∧ (Sm r (hbt (c 150 w.toInt.toNat) f.toInt)))) oA (ro sz)) 0 0 (ro sz) := by
  refine Met.ofW (cc := cX6_has) (maxL := 3) (ret := (some .boolean)) (by decide +kernel) rfl ?_
  intro p e s m args below meth cd s₁ B hml hv
  obtain ⟨rfl, ⟨hsz, hP, hK⟩, hN, hZ⟩ := hv
  have hx := B.exec
  have hb := B.bytes
  have hr := B.returns
  have hts := atoms_spec (ws := wm_X6_has_eTS) B.pre
  have hown : s.vm.findClass RX6 = some m.cls := findClass_of_methodNamed B.named
  have hlocks := B.notSynchronized
  subst hsz
  have hA : ∀ q : Nat, s.heap.size ≤ q → ro s.heap.size q := fun _ h => h
  have hS : va_S (ro s.heap.size) s.heap s.heap [] := va_S.rf
  have hl := lv_entry ([.ref (a 149), .int w, .int f]) (n := 3) (Nat.le_of_ble_eq_true rfl)
  rw [lg_entry_eq]
  generalize (lg_sl ([.ref (a 149), .int w, .int f]) ++ List.replicate (3 - (lg_sl ([.ref (a 149), .int w, .int f])).length) Slot.unset).toArray = ls at hl ⊢
  have hl : lv_has ls 3 [(0, .ref (a 149)), (1, .int w), (2, .int f)] := hl
  refine lv_aload_n hx hb dX6_has_0 rfl (lv_at hl 0 rfl) ?_
  refine xgP1_TS_cells hx hb hts (fun _ h => List.mem_cons_of_mem _ (List.mem_append_right _ h)) hown hK hP (hts (.fieldLink RX6 9 "TalePlay$Scene" "cells" "[I") (List.mem_cons_of_mem _ (List.mem_append_left _ (List.mem_of_getElem? (i := 0) rfl)))) dX6_has_1 ?_
  refine lv_iload_n hx hb dX6_has_4 rfl (lv_at hl 1 rfl) ?_
  refine xlP1_150 hx hb hK hP (vp_in_iff.mpr (by have h9 : w.toInt = w.toInt := rfl; omega)) dX6_has_5 (fun x1 ex1 => ?_)
  have rx1 : 0 ≤ x1.toInt ∧ x1.toInt ≤ 16383 ∧ (x1.toInt % 256 = 255 ∨ (x1.toInt % 8 ≤ 4 ∧ x1.toInt / 8 % 32 ≤ 29)) := by rw [ex1]; exact hI.2 150 _
  have gx1 : (c 150 (w : Int32).toNatClampNeg).toInt = x1.toInt := (congrArg Int32.toInt ex1).symm
  refine lv_bipush (v := 8) hx hb dX6_has_6 (by decide +kernel) ?_
  refine lv_iload_n hx hb dX6_has_8 rfl (lv_at hl 2 rfl) ?_
  refine lv_iadd hx hb dX6_has_9 ?_
  refine lv_topi (fun x2 ex2 => ?_)
  have tx2 := ti_add (a := 8) (b := f.toInt) ex2 (by decide +kernel) rfl (by omega) (by omega)
  refine lv_ishr hx hb dX6_has_10 ?_
  refine lv_topi (fun x3 ex3 => ?_)
  refine lv_iconst (v := 1) hx hb dX6_has_11 (by decide +kernel) ?_
  refine lv_iand hx hb dX6_has_12 ?_
  refine lv_topi (fun x4 ex4 => ?_)
  have hH := has_b (c := x1) (f := f) (x := x2) (by omega) (by omega) tx2 ex3 ex4
  refine lv_iconst (v := 1) hx hb dX6_has_13 (by decide +kernel) ?_
  refine lv_icmp_ne (tgt := 21) hx hb dX6_has_14 (by decide +kernel) (fun c5 => ?_) (fun c5 => ?_)
  · have f5 := mt (ti_eq (a := x4.toInt) (b := 1) rfl (by decide +kernel)).mpr c5
    refine lv_iconst (v := 0) hx hb dX6_has_21 (by decide +kernel) ?_
    exact ro_zret hx hb hr hlocks hS rfl dX6_has_22 ⟨(show 0 ≤ (0 : Int32).toInt ∧ (0 : Int32).toInt ≤ 1 from by decide +kernel), (show Sm (0 : Int32) (hbt (c 150 w.toInt.toNat) f.toInt) from sm_0 (by rcases hH with h9 | h9; (· exfalso; omega); (· have h8 := h9.2; rw [ex1] at h8; exact h8)))⟩
  · have f5 := (ti_eq (a := x4.toInt) (b := 1) rfl (by decide +kernel)).mp c5
    refine lv_iconst (v := 1) hx hb dX6_has_17 (by decide +kernel) ?_
    refine lv_goto (tgt := 22) hx hb dX6_has_18 (by decide +kernel) ?_
    exact ro_zret hx hb hr hlocks hS rfl dX6_has_22 ⟨(show 0 ≤ (1 : Int32).toInt ∧ (1 : Int32).toInt ≤ 1 from by decide +kernel), (show Sm (1 : Int32) (hbt (c 150 w.toInt.toNat) f.toInt) from sm_1 (by rcases hH with h9 | h9; (· have h8 := h9.2; rw [ex1] at h8; exact h8); (· exfalso; omega)))⟩

def wm_X6_isUp_eTS : List Cond := .code yX6_isUp cX6_isUp 5 (some .boolean) :: (([.methodLink RX6 25 yX6_holderOf, .instanceMethod yX6_holderOf, .selects RX6 yX6_holderOf yX6_holderOf, .initialized RX6, .code yX6_holderOf cX6_holderOf 3 (some .int), .fieldLink RX6 9 "TalePlay$Scene" "cells" "[I"] : List Cond) ++ wsX60)
set_option maxRecDepth 20000 in
theorem gm_X6_isUp_eTS_X6_holderOf_TS_25 : GoodIn wm_X6_isUp_eTS (wsV RX6 25 RX6 yX6_holderOf wm_X6_holderOf_TS) := goodIn_w (List.forall_mem_append.mpr ⟨List.forall_mem_cons.mpr ⟨List.mem_cons_of_mem _ (List.mem_append_left _ (List.mem_of_getElem? (i := 0) rfl)), List.forall_mem_cons.mpr ⟨List.mem_cons_of_mem _ (List.mem_append_left _ (List.mem_of_getElem? (i := 1) rfl)), List.forall_mem_cons.mpr ⟨List.mem_cons_of_mem _ (List.mem_append_left _ (List.mem_of_getElem? (i := 2) rfl)), List.forall_mem_cons.mpr ⟨List.mem_cons_of_mem _ (List.mem_append_left _ (List.mem_of_getElem? (i := 3) rfl)), (fun _ h => absurd h List.not_mem_nil)⟩⟩⟩⟩, List.forall_mem_cons.mpr ⟨List.mem_cons_of_mem _ (List.mem_append_left _ (List.mem_of_getElem? (i := 4) rfl)), List.forall_mem_append.mpr ⟨List.forall_mem_cons.mpr ⟨List.mem_cons_of_mem _ (List.mem_append_left _ (List.mem_of_getElem? (i := 5) rfl)), (fun _ h => absurd h List.not_mem_nil)⟩, (fun _ h => List.mem_cons_of_mem _ (List.mem_append_right _ h))⟩⟩⟩) (by decide +kernel)
set_option maxHeartbeats 4000000 in
set_option maxRecDepth 100000 in
theorem x_X6_isUp_eTS (l : Launch) (D : va_G) (sz : Nat) (sk : Value) (a : Nat → Nat) (t : Nat → ClassId) (i : Nat → Int32) (q : Int64) (c : Nat → Nat → Int32) (d : Nat → Nat → Int64) (w1 : Int32) (w2 : Int32) (hI : xInv i c) (hw2 : 0 ≤ w2.toInt ∧ w2.toInt ≤ 29) (hw10 : 0 ≤ w1.toInt) : Met l yX6_isUp wm_X6_isUp_eTS ({ frames := 1, cells := 0, slots := 0, locals := 22 }) (va_Pc [.ref (a 149), .int w1, .int w2] (yA (a 186) D sz (xwP1 sk a t i q c d) (xtP1 t))) (va_Qi (fun (r : Int32) (_ : Unit) => ((0 ≤ r.toInt ∧ r.toInt ≤ 1) ∧ (Sm r (ChB 30 (hF (c 150)) ((hF (c 150)) w2.toInt) w1.toInt)))) oA (ro sz)) 0 0 (ro sz) := by
  refine Met.ofW (cc := cX6_isUp) (maxL := 5) (ret := (some .boolean)) (by decide +kernel) rfl ?_
  intro p e s m args below meth cd s₁ B hml hv
  obtain ⟨rfl, ⟨hsz, hP, hK⟩, hN, hZ⟩ := hv
  have hx := B.exec
  have hb := B.bytes
  have hr := B.returns
  have hts := atoms_spec (ws := wm_X6_isUp_eTS) B.pre
  have hown : s.vm.findClass RX6 = some m.cls := findClass_of_methodNamed B.named
  have hlocks := B.notSynchronized
  subst hsz
  have hA : ∀ q : Nat, s.heap.size ≤ q → ro s.heap.size q := fun _ h => h
  have hS : va_S (ro s.heap.size) s.heap s.heap [] := va_S.rf
  have hl := lv_entry ([.ref (a 149), .int w1, .int w2]) (n := 5) (Nat.le_of_ble_eq_true rfl)
  rw [lg_entry_eq]
  generalize (lg_sl ([.ref (a 149), .int w1, .int w2]) ++ List.replicate (5 - (lg_sl ([.ref (a 149), .int w1, .int w2])).length) Slot.unset).toArray = ls at hl ⊢
  have hl : lv_has ls 5 [(0, .ref (a 149)), (1, .int w1), (2, .int w2)] := hl
  refine lv_aload_n hx hb dX6_isUp_0 rfl (lv_at hl 0 rfl) ?_
  refine lv_iload_n hx hb dX6_isUp_1 rfl (lv_at hl 2 rfl) ?_
  refine ro_calli (va_runV (As := [.int w2]) (rest := []) ⟨hx, hb, hml, hown, hts⟩ (x_X6_holderOf_TS l D s.heap.size .null a t i q c d w2 hI (show 0 ≤ w2.toInt ∧ w2.toInt ≤ 29 from by omega)) (cwV 1 hts gm_X6_isUp_eTS_X6_holderOf_TS_25 rfl rfl rfl (by decide +kernel) ⟨Nat.le_of_ble_eq_true rfl, Nat.le_of_ble_eq_true rfl⟩) (yA_V hN (xZ_k hZ hS hA) hK hP (ci := 6) (q0 := 0) rfl rfl) rfl rfl hl.1 rfl (lv_room (Nat.le_of_ble_eq_true rfl)) dX6_isUp_2 ⟨Nat.le_of_ble_eq_true rfl, Nat.le_of_ble_eq_true rfl⟩) hS hA hP (fun r1 u1 H locs hw1 hP hS => ?_)
  have hw1 : ((r1.toInt = -9 ∧ (c 150 w2.toNatClampNeg).toInt % 256 = 255) ∨ (0 ≤ r1.toInt ∧ r1.toInt ≤ 29 ∧ ¬ (c 150 w2.toNatClampNeg).toInt % 256 = 255 ∧ r1.toInt = (c 150 w2.toNatClampNeg).toInt / 8 % 32)) := hw1
  have hh0 : (hF (c 150)) w2.toInt = r1.toInt := hF_at (by omega) hw1
  refine lv_istore_n (lv' := [(3, .int r1), (0, .ref (a 149)), (1, .int w1), (2, .int w2)]) hx hb dX6_isUp_5 rfl hl (by decide +kernel) rfl (fun ls hl => ?_)
  refine lv_iconst (v := 0) hx hb dX6_isUp_6 (by decide +kernel) ?_
  refine lv_istore (lv' := [(4, .int 0), (3, .int r1), (0, .ref (a 149)), (1, .int w1), (2, .int w2)]) hx hb dX6_isUp_7 hl (by decide +kernel) rfl (fun ls hl => ?_)
  have lp2 : ∀ (fu : Nat) (y2_4 : Int32) (y2_3 : Int32), (0 ≤ y2_4.toInt ∧ y2_4.toInt ≤ 30) → (y2_3.toInt = -9 ∨ (0 ≤ y2_3.toInt ∧ y2_3.toInt ≤ 29)) → (ChB 30 (hF (c 150)) ((hF (c 150)) w2.toInt) w1.toInt ↔ ChB (30 - y2_4.toInt.toNat) (hF (c 150)) y2_3.toInt w1.toInt) → (30 - y2_4.toInt).toNat < fu → ∀ (H : Heap) (locs : List Loc) (ls : Array Slot), va_P D vwCl (xwP1 sk a t i q c d) H → va_S (ro s.heap.size) s.heap H locs → lv_has ls 5 [(4, .int y2_4), (3, .int y2_3), (0, .ref (a 149)), (1, .int w1), (2, .int w2)] → W p l e (headSpec wm_X6_isUp_eTS ({ frames := 1, cells := 0, slots := 0, locals := 22 })).room s m ([.ref (a 149), .int w1, .int w2] : List Value).toArray below meth cd H locs 0 0 (MQ below (va_Qi (fun (r : Int32) (_ : Unit) => ((0 ≤ r.toInt ∧ r.toInt ≤ 1) ∧ (Sm r (ChB 30 (hF (c 150)) ((hF (c 150)) w2.toInt) w1.toInt)))) oA (ro s.heap.size)) ([.ref (a 149), .int w1, .int w2] : List Value).toArray s 0 0 (ro s.heap.size)) (F0 m 9 ls []) := by
    intro fu
    induction fu with
    | zero => intro y2_4 y2_3 hy2_4 hy2_3 hz2_0 hm; exact absurd hm (Nat.not_lt_zero _)
    | succ fu ih =>
      intro y2_4 y2_3 hy2_4 hy2_3 hz2_0 hm H locs ls hP hS hl
      have ih2 := ih
      refine lv_iload hx hb dX6_isUp_9 (lv_at hl 0 rfl) ?_
      refine lv_bipush (v := 30) hx hb dX6_isUp_11 (by decide +kernel) ?_
      refine lv_icmp_ge (tgt := 41) hx hb dX6_isUp_13 (by decide +kernel) (fun c3 => ?_) (fun c3 => ?_)
      · have f3 := (ti_le (a := 30) (b := y2_4.toInt) (by decide +kernel) rfl).mp c3
        refine lv_iconst (v := 0) hx hb dX6_isUp_41 (by decide +kernel) ?_
        exact ro_zret hx hb hr hlocks hS rfl dX6_isUp_42 ⟨(show 0 ≤ (0 : Int32).toInt ∧ (0 : Int32).toInt ≤ 1 from by decide +kernel), (show Sm (0 : Int32) (ChB 30 (hF (c 150)) ((hF (c 150)) w2.toInt) w1.toInt) from sm_0 (ChB_x hz2_0 (by omega) hF_9 (by omega)))⟩
      · have f3 := mt (ti_le (a := 30) (b := y2_4.toInt) (by decide +kernel) rfl).mpr c3
        refine lv_iload_n hx hb dX6_isUp_16 rfl (lv_at hl 1 rfl) ?_
        refine lv_bipush (v := (-9)) hx hb dX6_isUp_17 (by decide +kernel) ?_
        refine lv_icmp_eq (tgt := 41) hx hb dX6_isUp_19 (by decide +kernel) (fun c4 => ?_) (fun c4 => ?_)
        · have f4 := (ti_eq (a := y2_3.toInt) (b := (-9)) rfl (by decide +kernel)).mp c4
          refine lv_iconst (v := 0) hx hb dX6_isUp_41 (by decide +kernel) ?_
          exact ro_zret hx hb hr hlocks hS rfl dX6_isUp_42 ⟨(show 0 ≤ (0 : Int32).toInt ∧ (0 : Int32).toInt ≤ 1 from by decide +kernel), (show Sm (0 : Int32) (ChB 30 (hF (c 150)) ((hF (c 150)) w2.toInt) w1.toInt) from sm_0 (ChB_x hz2_0 (by omega) hF_9 (by omega)))⟩
        · have f4 := mt (ti_eq (a := y2_3.toInt) (b := (-9)) rfl (by decide +kernel)).mpr c4
          refine lv_iload_n hx hb dX6_isUp_22 rfl (lv_at hl 1 rfl) ?_
          refine lv_iload_n hx hb dX6_isUp_23 rfl (lv_at hl 3 rfl) ?_
          refine lv_icmp_ne (tgt := 29) hx hb dX6_isUp_24 (by decide +kernel) (fun c5 => ?_) (fun c5 => ?_)
          · have f5 := mt (ti_eq (a := y2_3.toInt) (b := w1.toInt) rfl rfl).mpr c5
            refine lv_aload_n hx hb dX6_isUp_29 rfl (lv_at hl 2 rfl) ?_
            refine lv_iload_n hx hb dX6_isUp_30 rfl (lv_at hl 1 rfl) ?_
            refine ro_calli (va_runV (As := [.int y2_3]) (rest := []) ⟨hx, hb, hml, hown, hts⟩ (x_X6_holderOf_TS l D H.size .null a t i q c d y2_3 hI (show 0 ≤ y2_3.toInt ∧ y2_3.toInt ≤ 29 from by omega)) (cwV 1 hts gm_X6_isUp_eTS_X6_holderOf_TS_25 rfl rfl rfl (by decide +kernel) ⟨Nat.le_of_ble_eq_true rfl, Nat.le_of_ble_eq_true rfl⟩) (yA_V hN (xZ_k hZ hS hA) hK hP (ci := 6) (q0 := 0) rfl rfl) rfl rfl hl.1 rfl (lv_room (Nat.le_of_ble_eq_true rfl)) dX6_isUp_31 ⟨Nat.le_of_ble_eq_true rfl, Nat.le_of_ble_eq_true rfl⟩) hS hA hP (fun r6 u6 H locs hw6 hP hS => ?_)
            have hw6 : ((r6.toInt = -9 ∧ (c 150 y2_3.toNatClampNeg).toInt % 256 = 255) ∨ (0 ≤ r6.toInt ∧ r6.toInt ≤ 29 ∧ ¬ (c 150 y2_3.toNatClampNeg).toInt % 256 = 255 ∧ r6.toInt = (c 150 y2_3.toNatClampNeg).toInt / 8 % 32)) := hw6
            have hh1 : (hF (c 150)) y2_3.toInt = r6.toInt := hF_at (by omega) hw6
            refine lv_istore_n (lv' := [(3, .int r6), (4, .int y2_4), (0, .ref (a 149)), (1, .int w1), (2, .int w2)]) hx hb dX6_isUp_34 rfl hl (by decide +kernel) rfl (fun ls hl => ?_)
            obtain ⟨x7, ex7⟩ : ∃ y : Int32, y = y2_4 + 1 := ⟨_, rfl⟩
            have tx7 := ti_add (a := y2_4.toInt) (b := 1) ex7 rfl (by decide +kernel) (by omega) (by omega)
            refine lv_iinc (v := x7) (lv' := [(4, .int x7), (3, .int r6), (0, .ref (a 149)), (1, .int w1), (2, .int w2)]) hx hb dX6_isUp_35 hl (k := 1) rfl (by rw [ex7]; rfl) (by decide +kernel) rfl (fun ls hl => ?_)
            refine lv_goto (tgt := 9) hx hb dX6_isUp_38 (by decide +kernel) ?_
            exact ih2 x7 r6 (show 0 ≤ x7.toInt ∧ x7.toInt ≤ 30 from by have h50 : x7.toInt = (y2_4.toInt + 1) := tx7; omega) (show r6.toInt = -9 ∨ (0 ≤ r6.toInt ∧ r6.toInt ≤ 29) from by have h50 : x7.toInt = (y2_4.toInt + 1) := tx7; omega) (show ChB 30 (hF (c 150)) ((hF (c 150)) w2.toInt) w1.toInt ↔ ChB (30 - x7.toInt.toNat) (hF (c 150)) r6.toInt w1.toInt from ChB_s hz2_0 (by omega) tx7 (by omega) hh1) (by have h50 : x7.toInt = (y2_4.toInt + 1) := tx7; omega) _ _ _ hP hS (lv_sub hl [0, 1, 2, 3, 4] rfl)
          · have f5 := (ti_eq (a := y2_3.toInt) (b := w1.toInt) rfl rfl).mp c5
            refine lv_iconst (v := 1) hx hb dX6_isUp_27 (by decide +kernel) ?_
            exact ro_zret hx hb hr hlocks hS rfl dX6_isUp_28 ⟨(show 0 ≤ (1 : Int32).toInt ∧ (1 : Int32).toInt ≤ 1 from by decide +kernel), (show Sm (1 : Int32) (ChB 30 (hF (c 150)) ((hF (c 150)) w2.toInt) w1.toInt) from sm_1 (ChB_y hz2_0 (by omega) (by omega)))⟩
  exact lp2 _ (0 : Int32) r1 (show 0 ≤ (0 : Int32).toInt ∧ (0 : Int32).toInt ≤ 30 from by decide +kernel) (show r1.toInt = -9 ∨ (0 ≤ r1.toInt ∧ r1.toInt ≤ 29) from by have h50 : (0 : Int32).toInt = 0 := (by decide +kernel); omega) (show ChB 30 (hF (c 150)) ((hF (c 150)) w2.toInt) w1.toInt ↔ ChB (30 - (0 : Int32).toInt.toNat) (hF (c 150)) r1.toInt w1.toInt from ChB_e (by decide +kernel) hh0) (Nat.lt_succ_self _) _ _ _ hP hS (lv_sub hl [0, 1, 2, 3, 4] rfl)

def wm_X6_countOf_eTS : List Cond := .code yX6_countOf cX6_countOf 5 (some .int) :: (([.fieldLink RX6 15 "TalePlay$Scene" "world" "LTalePlay$World;", .fieldLink RX6 34 "TalePlay$World" "objects" "I", .methodLink RX6 38 yX6_lies, .instanceMethod yX6_lies, .selects RX6 yX6_lies yX6_lies, .initialized RX6, .code yX6_lies cX6_lies 4 (some .boolean), .fieldLink RX6 9 "TalePlay$Scene" "cells" "[I"] : List Cond) ++ wsX60 ++ wsX100)
set_option maxRecDepth 20000 in
theorem gm_X6_countOf_eTS_X6_lies_eTS_38 : GoodIn wm_X6_countOf_eTS (wsV RX6 38 RX6 yX6_lies wm_X6_lies_eTS) := goodIn_w (List.forall_mem_append.mpr ⟨List.forall_mem_cons.mpr ⟨List.mem_cons_of_mem _ (List.mem_append_left _ (List.mem_append_left _ (List.mem_of_getElem? (i := 2) rfl))), List.forall_mem_cons.mpr ⟨List.mem_cons_of_mem _ (List.mem_append_left _ (List.mem_append_left _ (List.mem_of_getElem? (i := 3) rfl))), List.forall_mem_cons.mpr ⟨List.mem_cons_of_mem _ (List.mem_append_left _ (List.mem_append_left _ (List.mem_of_getElem? (i := 4) rfl))), List.forall_mem_cons.mpr ⟨List.mem_cons_of_mem _ (List.mem_append_left _ (List.mem_append_left _ (List.mem_of_getElem? (i := 5) rfl))), (fun _ h => absurd h List.not_mem_nil)⟩⟩⟩⟩, List.forall_mem_cons.mpr ⟨List.mem_cons_of_mem _ (List.mem_append_left _ (List.mem_append_left _ (List.mem_of_getElem? (i := 6) rfl))), List.forall_mem_append.mpr ⟨List.forall_mem_cons.mpr ⟨List.mem_cons_of_mem _ (List.mem_append_left _ (List.mem_append_left _ (List.mem_of_getElem? (i := 7) rfl))), (fun _ h => absurd h List.not_mem_nil)⟩, (fun _ h => List.mem_cons_of_mem _ (List.mem_append_left _ (List.mem_append_right _ h)))⟩⟩⟩) (by decide +kernel)
set_option maxHeartbeats 4000000 in
set_option maxRecDepth 100000 in
theorem x_X6_countOf_eTS (l : Launch) (D : va_G) (sz : Nat) (sk : Value) (a : Nat → Nat) (t : Nat → ClassId) (i : Nat → Int32) (q : Int64) (c : Nat → Nat → Int32) (d : Nat → Nat → Int64) (f : Int32) (w : Int32) (hI : xInv i c) (hf : 0 ≤ f.toInt ∧ f.toInt ≤ 7) (hw : 0 ≤ w.toInt ∧ w.toInt ≤ 31) : Met l yX6_countOf wm_X6_countOf_eTS ({ frames := 1, cells := 0, slots := 0, locals := 23 }) (va_Pc [.ref (a 149), .int f, .int w] (yA (a 186) D sz (xwQ1 sk a t i q c d) (xtQ1 t))) (va_Qi (fun (r : Int32) (_ : Unit) => ((0 ≤ r.toInt ∧ r.toInt ≤ 30) ∧ (r.toInt = ((cnt (lsP (c 150) f.toInt w.toInt) (i 111).toInt.toNat : Nat) : Int)))) oA (ro sz)) 0 0 (ro sz) := by
  refine Met.ofW (cc := cX6_countOf) (maxL := 5) (ret := (some .int)) (by decide +kernel) rfl ?_
  intro p e s m args below meth cd s₁ B hml hv
  obtain ⟨rfl, ⟨hsz, hP, hK⟩, hN, hZ⟩ := hv
  have hx := B.exec
  have hb := B.bytes
  have hr := B.returns
  have hts := atoms_spec (ws := wm_X6_countOf_eTS) B.pre
  have hown : s.vm.findClass RX6 = some m.cls := findClass_of_methodNamed B.named
  have hlocks := B.notSynchronized
  subst hsz
  have hA : ∀ q : Nat, s.heap.size ≤ q → ro s.heap.size q := fun _ h => h
  have hS : va_S (ro s.heap.size) s.heap s.heap [] := va_S.rf
  have hl := lv_entry ([.ref (a 149), .int f, .int w]) (n := 5) (Nat.le_of_ble_eq_true rfl)
  rw [lg_entry_eq]
  generalize (lg_sl ([.ref (a 149), .int f, .int w]) ++ List.replicate (5 - (lg_sl ([.ref (a 149), .int f, .int w])).length) Slot.unset).toArray = ls at hl ⊢
  have hl : lv_has ls 5 [(0, .ref (a 149)), (1, .int f), (2, .int w)] := hl
  have rb111_i : 0 ≤ (i 111).toInt ∧ (i 111).toInt ≤ 30 := hI.1 111
  refine lv_iconst (v := 0) hx hb dX6_countOf_0 (by decide +kernel) ?_
  refine lv_istore_n (lv' := [(3, .int 0), (0, .ref (a 149)), (1, .int f), (2, .int w)]) hx hb dX6_countOf_1 rfl hl (by decide +kernel) rfl (fun ls hl => ?_)
  refine lv_iconst (v := 0) hx hb dX6_countOf_2 (by decide +kernel) ?_
  refine lv_istore (lv' := [(4, .int 0), (3, .int 0), (0, .ref (a 149)), (1, .int f), (2, .int w)]) hx hb dX6_countOf_3 hl (by decide +kernel) rfl (fun ls hl => ?_)
  have lp1 : ∀ (fu : Nat) (y1_4 : Int32) (y1_3 : Int32), (0 ≤ y1_4.toInt ∧ y1_4.toInt ≤ 30 ∧ y1_4.toInt ≤ (i 111).toInt) → (0 ≤ y1_3.toInt ∧ y1_3.toInt ≤ y1_4.toInt) → (y1_3.toInt = ((cnt (lsP (c 150) f.toInt w.toInt) y1_4.toInt.toNat : Nat) : Int)) → (30 - y1_4.toInt).toNat < fu → ∀ (H : Heap) (locs : List Loc) (ls : Array Slot), va_P D vwCl (xwQ1 sk a t i q c d) H → va_S (ro s.heap.size) s.heap H locs → lv_has ls 5 [(4, .int y1_4), (3, .int y1_3), (0, .ref (a 149)), (1, .int f), (2, .int w)] → W p l e (headSpec wm_X6_countOf_eTS ({ frames := 1, cells := 0, slots := 0, locals := 23 })).room s m ([.ref (a 149), .int f, .int w] : List Value).toArray below meth cd H locs 0 0 (MQ below (va_Qi (fun (r : Int32) (_ : Unit) => ((0 ≤ r.toInt ∧ r.toInt ≤ 30) ∧ (r.toInt = ((cnt (lsP (c 150) f.toInt w.toInt) (i 111).toInt.toNat : Nat) : Int)))) oA (ro s.heap.size)) ([.ref (a 149), .int f, .int w] : List Value).toArray s 0 0 (ro s.heap.size)) (F0 m 5 ls []) := by
    intro fu
    induction fu with
    | zero => intro y1_4 y1_3 hy1_4 hy1_3 hz1_0 hm; exact absurd hm (Nat.not_lt_zero _)
    | succ fu ih =>
      intro y1_4 y1_3 hy1_4 hy1_3 hz1_0 hm H locs ls hP hS hl
      have ih1 := ih
      refine lv_iload hx hb dX6_countOf_5 (lv_at hl 0 rfl) ?_
      refine lv_aload_n hx hb dX6_countOf_7 rfl (lv_at hl 2 rfl) ?_
      refine xgQ1_TS_world hx hb hts (fun _ h => List.mem_cons_of_mem _ (List.mem_append_left _ (List.mem_append_right _ h))) hown hK hP (hts (.fieldLink RX6 15 "TalePlay$Scene" "world" "LTalePlay$World;") (List.mem_cons_of_mem _ (List.mem_append_left _ (List.mem_append_left _ (List.mem_of_getElem? (i := 0) rfl))))) dX6_countOf_8 ?_
      refine xgQ1_W_objects (v := (i 111)) rfl hx hb hts (fun _ h => List.mem_cons_of_mem _ (List.mem_append_right _ h)) hown hK hP (hts (.fieldLink RX6 34 "TalePlay$World" "objects" "I") (List.mem_cons_of_mem _ (List.mem_append_left _ (List.mem_append_left _ (List.mem_of_getElem? (i := 1) rfl))))) dX6_countOf_11 ?_
      refine lv_icmp_ge (tgt := 37) hx hb dX6_countOf_14 (by decide +kernel) (fun c2 => ?_) (fun c2 => ?_)
      · have f2 := (ti_le (a := (i 111).toInt) (b := y1_4.toInt) rfl rfl).mp c2
        refine lv_iload_n hx hb dX6_countOf_37 rfl (lv_at hl 1 rfl) ?_
        exact ro_iret hx hb hr hlocks hS dX6_countOf_38 ⟨(show 0 ≤ y1_3.toInt ∧ y1_3.toInt ≤ 30 from by omega), (show y1_3.toInt = ((cnt (lsP (c 150) f.toInt w.toInt) (i 111).toInt.toNat : Nat) : Int) from by rw [show (i 111).toInt = y1_4.toInt by omega]; exact hz1_0)⟩
      · have f2 := mt (ti_le (a := (i 111).toInt) (b := y1_4.toInt) rfl rfl).mpr c2
        refine lv_aload_n hx hb dX6_countOf_17 rfl (lv_at hl 2 rfl) ?_
        refine lv_iload hx hb dX6_countOf_18 (lv_at hl 0 rfl) ?_
        refine lv_iload_n hx hb dX6_countOf_20 rfl (lv_at hl 3 rfl) ?_
        refine lv_iload_n hx hb dX6_countOf_21 rfl (lv_at hl 4 rfl) ?_
        refine ro_calli (va_runV (As := [.int y1_4, .int f, .int w]) (rest := []) ⟨hx, hb, hml, hown, hts⟩ (x_X6_lies_eTS l D H.size .null a t i q c d y1_4 f w hI (show 0 ≤ y1_4.toInt ∧ y1_4.toInt ≤ 29 from by omega) (show 0 ≤ f.toInt ∧ f.toInt ≤ 7 from by omega) (show 0 ≤ w.toInt ∧ w.toInt ≤ 31 from by omega)) (cwV 3 hts gm_X6_countOf_eTS_X6_lies_eTS_38 rfl rfl rfl (by decide +kernel) ⟨Nat.le_of_ble_eq_true rfl, Nat.le_of_ble_eq_true rfl⟩) (yA_V hN (xZ_k hZ hS hA) (xkQ1_P1 hK) (xuQ1_P1 (sk := sk) hP) (ci := 6) (q0 := 0) rfl rfl) rfl rfl hl.1 rfl (lv_room (Nat.le_of_ble_eq_true rfl)) dX6_countOf_22 ⟨Nat.le_of_ble_eq_true rfl, Nat.le_of_ble_eq_true rfl⟩) hS hA hP (fun r3 u3 H locs hw3 hP hS => ?_)
        have hw3 : ((0 ≤ r3.toInt ∧ r3.toInt ≤ 1) ∧ (Sm r3 ((c 150 y1_4.toInt.toNat).toInt % 256 = w.toInt * 8 + f.toInt))) := hw3
        obtain ⟨hw3, hr3_0⟩ := hw3
        have hr3_0 : Sm r3 ((c 150 y1_4.toInt.toNat).toInt % 256 = w.toInt * 8 + f.toInt) := hr3_0
        refine lv_if_eq (tgt := 31) hx hb dX6_countOf_25 (by decide +kernel) (fun c4 => ?_) (fun c4 => ?_)
        · have f4 := (ti_eq (a := r3.toInt) (b := 0) rfl (by decide +kernel)).mp c4
          have s4 := sm_f hr3_0 c4
          obtain ⟨x5, ex5⟩ : ∃ y : Int32, y = y1_4 + 1 := ⟨_, rfl⟩
          have tx5 := ti_add (a := y1_4.toInt) (b := 1) ex5 rfl (by decide +kernel) (by omega) (by omega)
          refine lv_iinc (v := x5) (lv' := [(4, .int x5), (3, .int y1_3), (0, .ref (a 149)), (1, .int f), (2, .int w)]) hx hb dX6_countOf_31 hl (k := 0) rfl (by rw [ex5]; rfl) (by decide +kernel) rfl (fun ls hl => ?_)
          refine lv_goto (tgt := 5) hx hb dX6_countOf_34 (by decide +kernel) ?_
          exact ih1 x5 y1_3 (show 0 ≤ x5.toInt ∧ x5.toInt ≤ 30 ∧ x5.toInt ≤ (i 111).toInt from by have h50 : x5.toInt = (y1_4.toInt + 1) := tx5; omega) (show 0 ≤ y1_3.toInt ∧ y1_3.toInt ≤ x5.toInt from by have h50 : x5.toInt = (y1_4.toInt + 1) := tx5; omega) (show y1_3.toInt = ((cnt (lsP (c 150) f.toInt w.toInt) x5.toInt.toNat : Nat) : Int) from cn_n hz1_0 (by omega) (fun h9 => s4 (lsP_e h9)) tx5) (by have h50 : x5.toInt = (y1_4.toInt + 1) := tx5; omega) _ _ _ hP hS (lv_sub hl [0, 1, 2, 3, 4] rfl)
        · have f4 := mt (ti_eq (a := r3.toInt) (b := 0) rfl (by decide +kernel)).mpr c4
          have s4 := sm_t hr3_0 c4
          obtain ⟨x6, ex6⟩ : ∃ y : Int32, y = y1_3 + 1 := ⟨_, rfl⟩
          have tx6 := ti_add (a := y1_3.toInt) (b := 1) ex6 rfl (by decide +kernel) (by omega) (by omega)
          refine lv_iinc (v := x6) (lv' := [(3, .int x6), (4, .int y1_4), (0, .ref (a 149)), (1, .int f), (2, .int w)]) hx hb dX6_countOf_28 hl (k := 1) rfl (by rw [ex6]; rfl) (by decide +kernel) rfl (fun ls hl => ?_)
          obtain ⟨x7, ex7⟩ : ∃ y : Int32, y = y1_4 + 1 := ⟨_, rfl⟩
          have tx7 := ti_add (a := y1_4.toInt) (b := 1) ex7 rfl (by decide +kernel) (by omega) (by omega)
          refine lv_iinc (v := x7) (lv' := [(4, .int x7), (3, .int x6), (0, .ref (a 149)), (1, .int f), (2, .int w)]) hx hb dX6_countOf_31 hl (k := 1) rfl (by rw [ex7]; rfl) (by decide +kernel) rfl (fun ls hl => ?_)
          refine lv_goto (tgt := 5) hx hb dX6_countOf_34 (by decide +kernel) ?_
          exact ih1 x7 x6 (show 0 ≤ x7.toInt ∧ x7.toInt ≤ 30 ∧ x7.toInt ≤ (i 111).toInt from by have h50 : x7.toInt = (y1_4.toInt + 1) := tx7; have h51 : x6.toInt = (y1_3.toInt + 1) := tx6; omega) (show 0 ≤ x6.toInt ∧ x6.toInt ≤ x7.toInt from by have h50 : x7.toInt = (y1_4.toInt + 1) := tx7; have h51 : x6.toInt = (y1_3.toInt + 1) := tx6; omega) (show x6.toInt = ((cnt (lsP (c 150) f.toInt w.toInt) x7.toInt.toNat : Nat) : Int) from cn_y hz1_0 (by omega) (lsP_y (show (c 150 y1_4.toNatClampNeg).toInt % 256 = w.toInt * 8 + f.toInt from s4)) tx6 tx7) (by have h50 : x7.toInt = (y1_4.toInt + 1) := tx7; have h51 : x6.toInt = (y1_3.toInt + 1) := tx6; omega) _ _ _ hP hS (lv_sub hl [0, 1, 2, 3, 4] rfl)
  exact lp1 _ (0 : Int32) (0 : Int32) (show 0 ≤ (0 : Int32).toInt ∧ (0 : Int32).toInt ≤ 30 ∧ (0 : Int32).toInt ≤ (i 111).toInt from by have h50 : (0 : Int32).toInt = 0 := (by decide +kernel); have h51 : (0 : Int32).toInt = 0 := (by decide +kernel); omega) (show 0 ≤ (0 : Int32).toInt ∧ (0 : Int32).toInt ≤ (0 : Int32).toInt from by decide +kernel) (show (0 : Int32).toInt = ((cnt (lsP (c 150) f.toInt w.toInt) (0 : Int32).toInt.toNat : Nat) : Int) from by rw [show (0 : Int32).toInt.toNat = 0 by decide]; rfl) (Nat.lt_succ_self _) _ _ _ hP hS (lv_sub hl [0, 1, 2, 3, 4] rfl)

def wm_X5_isSide_eR : List Cond := .code yX5_isSide cX5_isSide 3 (some .boolean) :: (([.fieldLink RX5 24 "TalePlay$Roads" "firstSides" "[I", .fieldLink RX5 27 "TalePlay$Roads" "secondSides" "[I"] : List Cond) ++ wsX50)
set_option maxHeartbeats 4000000 in
set_option maxRecDepth 100000 in
theorem x_X5_isSide_eR (l : Launch) (D : va_G) (sz : Nat) (sk : Value) (a : Nat → Nat) (t : Nat → ClassId) (i : Nat → Int32) (q : Int64) (c : Nat → Nat → Int32) (d : Nat → Nat → Int64) (w1 : Int32) (w2 : Int32) (hI : xInv i c) (hw2 : 0 ≤ w2.toInt ∧ w2.toInt ≤ 29) : Met l yX5_isSide wm_X5_isSide_eR ({ frames := 0, cells := 0, slots := 0, locals := 0 }) (va_Pc [.ref (a 128), .int w1, .int w2] (yA (a 186) D sz (xwB sk a t i q c d) (xtB t))) (va_Qi (fun (r : Int32) (_ : Unit) => ((0 ≤ r.toInt ∧ r.toInt ≤ 1) ∧ (Sm r (¬ w1.toInt = -9 ∧ ((c 133 w2.toInt.toNat).toInt = w1.toInt ∨ (c 134 w2.toInt.toNat).toInt = w1.toInt))))) oA (ro sz)) 0 0 (ro sz) := by
  refine Met.ofW (cc := cX5_isSide) (maxL := 3) (ret := (some .boolean)) (by decide +kernel) rfl ?_
  intro p e s m args below meth cd s₁ B hml hv
  obtain ⟨rfl, ⟨hsz, hP, hK⟩, hN, hZ⟩ := hv
  have hx := B.exec
  have hb := B.bytes
  have hr := B.returns
  have hts := atoms_spec (ws := wm_X5_isSide_eR) B.pre
  have hown : s.vm.findClass RX5 = some m.cls := findClass_of_methodNamed B.named
  have hlocks := B.notSynchronized
  subst hsz
  have hA : ∀ q : Nat, s.heap.size ≤ q → ro s.heap.size q := fun _ h => h
  have hS : va_S (ro s.heap.size) s.heap s.heap [] := va_S.rf
  have hl := lv_entry ([.ref (a 128), .int w1, .int w2]) (n := 3) (Nat.le_of_ble_eq_true rfl)
  rw [lg_entry_eq]
  generalize (lg_sl ([.ref (a 128), .int w1, .int w2]) ++ List.replicate (3 - (lg_sl ([.ref (a 128), .int w1, .int w2])).length) Slot.unset).toArray = ls at hl ⊢
  have hl : lv_has ls 3 [(0, .ref (a 128)), (1, .int w1), (2, .int w2)] := hl
  refine lv_iload_n hx hb dX5_isSide_0 rfl (lv_at hl 1 rfl) ?_
  refine lv_bipush (v := (-9)) hx hb dX5_isSide_1 (by decide +kernel) ?_
  refine lv_icmp_eq (tgt := 30) hx hb dX5_isSide_3 (by decide +kernel) (fun c1 => ?_) (fun c1 => ?_)
  · have f1 := (ti_eq (a := w1.toInt) (b := (-9)) rfl (by decide +kernel)).mp c1
    refine lv_iconst (v := 0) hx hb dX5_isSide_30 (by decide +kernel) ?_
    exact ro_zret hx hb hr hlocks hS rfl dX5_isSide_31 ⟨(show 0 ≤ (0 : Int32).toInt ∧ (0 : Int32).toInt ≤ 1 from by decide +kernel), (show Sm (0 : Int32) (¬ w1.toInt = -9 ∧ ((c 133 w2.toInt.toNat).toInt = w1.toInt ∨ (c 134 w2.toInt.toNat).toInt = w1.toInt)) from sm_0 (by omega))⟩
  · have f1 := mt (ti_eq (a := w1.toInt) (b := (-9)) rfl (by decide +kernel)).mpr c1
    refine lv_aload_n hx hb dX5_isSide_6 rfl (lv_at hl 0 rfl) ?_
    refine xgB_R_firstSides hx hb hts (fun _ h => List.mem_cons_of_mem _ (List.mem_append_right _ h)) hown hK hP (hts (.fieldLink RX5 24 "TalePlay$Roads" "firstSides" "[I") (List.mem_cons_of_mem _ (List.mem_append_left _ (List.mem_of_getElem? (i := 0) rfl)))) dX5_isSide_7 ?_
    refine lv_iload_n hx hb dX5_isSide_10 rfl (lv_at hl 2 rfl) ?_
    refine xlB_133 hx hb hK hP (vp_in_iff.mpr (by have h9 : w2.toInt = w2.toInt := rfl; omega)) dX5_isSide_11 (fun x2 ex2 => ?_)
    have rx2 : x2.toInt = -9 ∨ (0 ≤ x2.toInt ∧ x2.toInt ≤ 29) := by rw [ex2]; exact hI.2 133 _
    have gx2 : (c 133 (w2 : Int32).toNatClampNeg).toInt = x2.toInt := (congrArg Int32.toInt ex2).symm
    refine lv_iload_n hx hb dX5_isSide_12 rfl (lv_at hl 1 rfl) ?_
    refine lv_icmp_eq (tgt := 26) hx hb dX5_isSide_13 (by decide +kernel) (fun c3 => ?_) (fun c3 => ?_)
    · have f3 := (ti_eq (a := x2.toInt) (b := w1.toInt) rfl rfl).mp c3
      refine lv_iconst (v := 1) hx hb dX5_isSide_26 (by decide +kernel) ?_
      refine lv_goto (tgt := 31) hx hb dX5_isSide_27 (by decide +kernel) ?_
      exact ro_zret hx hb hr hlocks hS rfl dX5_isSide_31 ⟨(show 0 ≤ (1 : Int32).toInt ∧ (1 : Int32).toInt ≤ 1 from by decide +kernel), (show Sm (1 : Int32) (¬ w1.toInt = -9 ∧ ((c 133 w2.toInt.toNat).toInt = w1.toInt ∨ (c 134 w2.toInt.toNat).toInt = w1.toInt)) from sm_1 (by have h0 : (c 133 w2.toInt.toNat).toInt = x2.toInt := gx2; omega))⟩
    · have f3 := mt (ti_eq (a := x2.toInt) (b := w1.toInt) rfl rfl).mpr c3
      refine lv_aload_n hx hb dX5_isSide_16 rfl (lv_at hl 0 rfl) ?_
      refine xgB_R_secondSides hx hb hts (fun _ h => List.mem_cons_of_mem _ (List.mem_append_right _ h)) hown hK hP (hts (.fieldLink RX5 27 "TalePlay$Roads" "secondSides" "[I") (List.mem_cons_of_mem _ (List.mem_append_left _ (List.mem_of_getElem? (i := 1) rfl)))) dX5_isSide_17 ?_
      refine lv_iload_n hx hb dX5_isSide_20 rfl (lv_at hl 2 rfl) ?_
      refine xlB_134 hx hb hK hP (vp_in_iff.mpr (by have h9 : w2.toInt = w2.toInt := rfl; omega)) dX5_isSide_21 (fun x4 ex4 => ?_)
      have rx4 : x4.toInt = -9 ∨ (0 ≤ x4.toInt ∧ x4.toInt ≤ 29) := by rw [ex4]; exact hI.2 134 _
      have gx4 : (c 134 (w2 : Int32).toNatClampNeg).toInt = x4.toInt := (congrArg Int32.toInt ex4).symm
      refine lv_iload_n hx hb dX5_isSide_22 rfl (lv_at hl 1 rfl) ?_
      refine lv_icmp_ne (tgt := 30) hx hb dX5_isSide_23 (by decide +kernel) (fun c5 => ?_) (fun c5 => ?_)
      · have f5 := mt (ti_eq (a := x4.toInt) (b := w1.toInt) rfl rfl).mpr c5
        refine lv_iconst (v := 0) hx hb dX5_isSide_30 (by decide +kernel) ?_
        exact ro_zret hx hb hr hlocks hS rfl dX5_isSide_31 ⟨(show 0 ≤ (0 : Int32).toInt ∧ (0 : Int32).toInt ≤ 1 from by decide +kernel), (show Sm (0 : Int32) (¬ w1.toInt = -9 ∧ ((c 133 w2.toInt.toNat).toInt = w1.toInt ∨ (c 134 w2.toInt.toNat).toInt = w1.toInt)) from sm_0 (by have h0 : (c 133 w2.toInt.toNat).toInt = x2.toInt := gx2; have h1 : (c 134 w2.toInt.toNat).toInt = x4.toInt := gx4; omega))⟩
      · have f5 := (ti_eq (a := x4.toInt) (b := w1.toInt) rfl rfl).mp c5
        refine lv_iconst (v := 1) hx hb dX5_isSide_26 (by decide +kernel) ?_
        refine lv_goto (tgt := 31) hx hb dX5_isSide_27 (by decide +kernel) ?_
        exact ro_zret hx hb hr hlocks hS rfl dX5_isSide_31 ⟨(show 0 ≤ (1 : Int32).toInt ∧ (1 : Int32).toInt ≤ 1 from by decide +kernel), (show Sm (1 : Int32) (¬ w1.toInt = -9 ∧ ((c 133 w2.toInt.toNat).toInt = w1.toInt ∨ (c 134 w2.toInt.toNat).toInt = w1.toInt)) from sm_1 (by have h0 : (c 133 w2.toInt.toNat).toInt = x2.toInt := gx2; have h1 : (c 134 w2.toInt.toNat).toInt = x4.toInt := gx4; omega))⟩

def wm_X8_isCover_eTG : List Cond := .code yX8_isCover cX8_isCover 3 (some .boolean) :: (([.fieldLink RX8 18 "TalePlay$Sight" "world" "LTalePlay$World;", .methodLink RX8 34 yX10_sortOf, .instanceMethod yX10_sortOf, .selects RX10 yX10_sortOf yX10_sortOf, .initialized RX10, .code yX10_sortOf cX10_sortOf 2 (some .int), .fieldLink RX10 37 "TalePlay$World" "objects" "I", .fieldLink RX10 15 "TalePlay$World" "sorts" "[I", .fieldLink RX10 21 "TalePlay$World" "kindOf" "[I", .fieldLink RX8 26 "TalePlay$Sight" "scene" "LTalePlay$Scene;", .methodLink RX8 40 yX6_has, .instanceMethod yX6_has, .selects RX6 yX6_has yX6_has, .initialized RX6, .code yX6_has cX6_has 3 (some .boolean), .fieldLink RX6 9 "TalePlay$Scene" "cells" "[I"] : List Cond) ++ wsX80 ++ wsX100 ++ wsX60)
set_option maxRecDepth 20000 in
theorem gm_X8_isCover_eTG_X10_sortOf_e_34 : GoodIn wm_X8_isCover_eTG (wsV RX8 34 RX10 yX10_sortOf wm_X10_sortOf_e) := goodIn_w (List.forall_mem_append.mpr ⟨List.forall_mem_cons.mpr ⟨List.mem_cons_of_mem _ (List.mem_append_left _ (List.mem_append_left _ (List.mem_append_left _ (List.mem_of_getElem? (i := 1) rfl)))), List.forall_mem_cons.mpr ⟨List.mem_cons_of_mem _ (List.mem_append_left _ (List.mem_append_left _ (List.mem_append_left _ (List.mem_of_getElem? (i := 2) rfl)))), List.forall_mem_cons.mpr ⟨List.mem_cons_of_mem _ (List.mem_append_left _ (List.mem_append_left _ (List.mem_append_left _ (List.mem_of_getElem? (i := 3) rfl)))), List.forall_mem_cons.mpr ⟨List.mem_cons_of_mem _ (List.mem_append_left _ (List.mem_append_left _ (List.mem_append_left _ (List.mem_of_getElem? (i := 4) rfl)))), (fun _ h => absurd h List.not_mem_nil)⟩⟩⟩⟩, List.forall_mem_cons.mpr ⟨List.mem_cons_of_mem _ (List.mem_append_left _ (List.mem_append_left _ (List.mem_append_left _ (List.mem_of_getElem? (i := 5) rfl)))), List.forall_mem_append.mpr ⟨List.forall_mem_cons.mpr ⟨List.mem_cons_of_mem _ (List.mem_append_left _ (List.mem_append_left _ (List.mem_append_left _ (List.mem_of_getElem? (i := 6) rfl)))), List.forall_mem_cons.mpr ⟨List.mem_cons_of_mem _ (List.mem_append_left _ (List.mem_append_left _ (List.mem_append_left _ (List.mem_of_getElem? (i := 7) rfl)))), List.forall_mem_cons.mpr ⟨List.mem_cons_of_mem _ (List.mem_append_left _ (List.mem_append_left _ (List.mem_append_left _ (List.mem_of_getElem? (i := 8) rfl)))), (fun _ h => absurd h List.not_mem_nil)⟩⟩⟩, (fun _ h => List.mem_cons_of_mem _ (List.mem_append_left _ (List.mem_append_right _ h)))⟩⟩⟩) (by decide +kernel)
set_option maxRecDepth 20000 in
theorem gm_X8_isCover_eTG_X6_has_eTS_40 : GoodIn wm_X8_isCover_eTG (wsV RX8 40 RX6 yX6_has wm_X6_has_eTS) := goodIn_w (List.forall_mem_append.mpr ⟨List.forall_mem_cons.mpr ⟨List.mem_cons_of_mem _ (List.mem_append_left _ (List.mem_append_left _ (List.mem_append_left _ (List.mem_of_getElem? (i := 10) rfl)))), List.forall_mem_cons.mpr ⟨List.mem_cons_of_mem _ (List.mem_append_left _ (List.mem_append_left _ (List.mem_append_left _ (List.mem_of_getElem? (i := 11) rfl)))), List.forall_mem_cons.mpr ⟨List.mem_cons_of_mem _ (List.mem_append_left _ (List.mem_append_left _ (List.mem_append_left _ (List.mem_of_getElem? (i := 12) rfl)))), List.forall_mem_cons.mpr ⟨List.mem_cons_of_mem _ (List.mem_append_left _ (List.mem_append_left _ (List.mem_append_left _ (List.mem_of_getElem? (i := 13) rfl)))), (fun _ h => absurd h List.not_mem_nil)⟩⟩⟩⟩, List.forall_mem_cons.mpr ⟨List.mem_cons_of_mem _ (List.mem_append_left _ (List.mem_append_left _ (List.mem_append_left _ (List.mem_of_getElem? (i := 14) rfl)))), List.forall_mem_append.mpr ⟨List.forall_mem_cons.mpr ⟨List.mem_cons_of_mem _ (List.mem_append_left _ (List.mem_append_left _ (List.mem_append_left _ (List.mem_of_getElem? (i := 15) rfl)))), (fun _ h => absurd h List.not_mem_nil)⟩, (fun _ h => List.mem_cons_of_mem _ (List.mem_append_right _ h))⟩⟩⟩) (by decide +kernel)
set_option maxHeartbeats 4000000 in
set_option maxRecDepth 100000 in
theorem x_X8_isCover_eTG (l : Launch) (D : va_G) (sz : Nat) (sk : Value) (a : Nat → Nat) (t : Nat → ClassId) (i : Nat → Int32) (q : Int64) (c : Nat → Nat → Int32) (d : Nat → Nat → Int64) (w : Int32) (b1 : Int32) (hI : xInv i c) (hb1 : 0 ≤ b1.toInt ∧ b1.toInt ≤ 1) : Met l yX8_isCover wm_X8_isCover_eTG ({ frames := 1, cells := 0, slots := 0, locals := 22 }) (va_Pc [.ref (a 151), .int w, .int b1] (yA (a 186) D sz (xwT sk a t i q c d) (xtT t))) (va_Qi (fun (r : Int32) (_ : Unit) => ((0 ≤ r.toInt ∧ r.toInt ≤ 1) ∧ (Sm r (Cv (zX (c 106) (c 108) (i 111).toInt) (bT (c 150) 0) (bT (c 150) 5) ((1 : Int) ≤ b1.toInt) w.toInt)))) oA (ro sz)) 0 0 (ro sz) := by
  refine Met.ofW (cc := cX8_isCover) (maxL := 3) (ret := (some .boolean)) (by decide +kernel) rfl ?_
  intro p e s m args below meth cd s₁ B hml hv
  obtain ⟨rfl, ⟨hsz, hP, hK⟩, hN, hZ⟩ := hv
  have hx := B.exec
  have hb := B.bytes
  have hr := B.returns
  have hts := atoms_spec (ws := wm_X8_isCover_eTG) B.pre
  have hown : s.vm.findClass RX8 = some m.cls := findClass_of_methodNamed B.named
  have hlocks := B.notSynchronized
  subst hsz
  have hA : ∀ q : Nat, s.heap.size ≤ q → ro s.heap.size q := fun _ h => h
  have hS : va_S (ro s.heap.size) s.heap s.heap [] := va_S.rf
  have hl := lv_entry ([.ref (a 151), .int w, .int b1]) (n := 3) (Nat.le_of_ble_eq_true rfl)
  rw [lg_entry_eq]
  generalize (lg_sl ([.ref (a 151), .int w, .int b1]) ++ List.replicate (3 - (lg_sl ([.ref (a 151), .int w, .int b1])).length) Slot.unset).toArray = ls at hl ⊢
  have hl : lv_has ls 3 [(0, .ref (a 151)), (1, .int w), (2, .int b1)] := hl
  have rb111_i : 0 ≤ (i 111).toInt ∧ (i 111).toInt ≤ 30 := hI.1 111
  refine lv_aload_n hx hb dX8_isCover_0 rfl (lv_at hl 0 rfl) ?_
  refine xgT_TG_world hx hb hts (fun _ h => List.mem_cons_of_mem _ (List.mem_append_left _ (List.mem_append_left _ (List.mem_append_right _ h)))) hown hK hP (hts (.fieldLink RX8 18 "TalePlay$Sight" "world" "LTalePlay$World;") (List.mem_cons_of_mem _ (List.mem_append_left _ (List.mem_append_left _ (List.mem_append_left _ (List.mem_of_getElem? (i := 0) rfl)))))) dX8_isCover_1 ?_
  refine lv_iload_n hx hb dX8_isCover_4 rfl (lv_at hl 1 rfl) ?_
  refine ro_calli (va_runV (As := [.int w]) (rest := []) ⟨hx, hb, hml, hown, hts⟩ (x_X10_sortOf_e l D s.heap.size .null a t i q c d w hI ) (cwV 1 hts gm_X8_isCover_eTG_X10_sortOf_e_34 rfl rfl rfl (by decide +kernel) ⟨Nat.le_of_ble_eq_true rfl, Nat.le_of_ble_eq_true rfl⟩) (yA_V hN (xZ_k hZ hS hA) (xkT_W hK) (xuT_W (sk := sk) hP) (ci := 10) (q0 := 0) rfl rfl) rfl rfl hl.1 rfl (lv_room (Nat.le_of_ble_eq_true rfl)) dX8_isCover_5 ⟨Nat.le_of_ble_eq_true rfl, Nat.le_of_ble_eq_true rfl⟩) hS hA hP (fun r1 u1 H locs hw1 hP hS => ?_)
  have hw1 : (((r1.toInt = -9 ∧ ¬ (0 ≤ w.toInt ∧ w.toInt < (i 111).toInt)) ∨ (0 ≤ r1.toInt ∧ r1.toInt ≤ 5 ∧ 0 ≤ w.toInt ∧ w.toInt < (i 111).toInt)) ∧ (SO (c 106) (c 108) (i 111).toInt w.toInt r1.toInt)) := hw1
  obtain ⟨hw1, hr1_0⟩ := hw1
  have hr1_0 : SO (c 106) (c 108) (i 111).toInt w.toInt r1.toInt := hr1_0
  have hzo : r1.toInt = (zX (c 106) (c 108) (i 111).toInt) w.toInt := SO_z hr1_0
  refine lv_iconst (v := 3) hx hb dX8_isCover_8 (by decide +kernel) ?_
  refine lv_icmp_ne (tgt := 44) hx hb dX8_isCover_9 (by decide +kernel) (fun c2 => ?_) (fun c2 => ?_)
  · have f2 := mt (ti_eq (a := r1.toInt) (b := 3) rfl (by decide +kernel)).mpr c2
    refine lv_iconst (v := 0) hx hb dX8_isCover_44 (by decide +kernel) ?_
    exact ro_zret hx hb hr hlocks hS rfl dX8_isCover_45 ⟨(show 0 ≤ (0 : Int32).toInt ∧ (0 : Int32).toInt ≤ 1 from by decide +kernel), (show Sm (0 : Int32) (Cv (zX (c 106) (c 108) (i 111).toInt) (bT (c 150) 0) (bT (c 150) 5) ((1 : Int) ≤ b1.toInt) w.toInt) from sm_0 (fun h9 => by have h8 := h9.1; omega))⟩
  · have f2 := (ti_eq (a := r1.toInt) (b := 3) rfl (by decide +kernel)).mp c2
    refine lv_aload_n hx hb dX8_isCover_12 rfl (lv_at hl 0 rfl) ?_
    refine xgT_TG_scene hx hb hts (fun _ h => List.mem_cons_of_mem _ (List.mem_append_left _ (List.mem_append_left _ (List.mem_append_right _ h)))) hown hK hP (hts (.fieldLink RX8 26 "TalePlay$Sight" "scene" "LTalePlay$Scene;") (List.mem_cons_of_mem _ (List.mem_append_left _ (List.mem_append_left _ (List.mem_append_left _ (List.mem_of_getElem? (i := 9) rfl)))))) dX8_isCover_13 ?_
    refine lv_iload_n hx hb dX8_isCover_16 rfl (lv_at hl 1 rfl) ?_
    refine lv_iconst (v := 0) hx hb dX8_isCover_17 (by decide +kernel) ?_
    refine ro_calli (va_runV (As := [.int w, .int 0]) (rest := []) ⟨hx, hb, hml, hown, hts⟩ (x_X6_has_eTS l D H.size .null a t i q c d w 0 hI (show 0 ≤ w.toInt ∧ w.toInt ≤ 29 from by have h91 : (0 : Int32).toInt = 0 := (by decide +kernel); omega) (show 0 ≤ 0 ∧ 0 ≤ 5 from by decide +kernel)) (cwV 2 hts gm_X8_isCover_eTG_X6_has_eTS_40 rfl rfl rfl (by decide +kernel) ⟨Nat.le_of_ble_eq_true rfl, Nat.le_of_ble_eq_true rfl⟩) (yA_V hN (xZ_k hZ hS hA) (xkT_P1 hK) (xuT_P1 (sk := sk) hP) (ci := 6) (q0 := 0) rfl rfl) rfl rfl hl.1 rfl (lv_room (Nat.le_of_ble_eq_true rfl)) dX8_isCover_18 ⟨Nat.le_of_ble_eq_true rfl, Nat.le_of_ble_eq_true rfl⟩) hS hA hP (fun r3 u3 H locs hw3 hP hS => ?_)
    have hw3 : ((0 ≤ r3.toInt ∧ r3.toInt ≤ 1) ∧ (Sm r3 (hbt (c 150 w.toInt.toNat) 0))) := hw3
    obtain ⟨hw3, hr3_0⟩ := hw3
    have hr3_0 : Sm r3 (hbt (c 150 w.toInt.toNat) 0) := hr3_0
    refine lv_if_ne (tgt := 44) hx hb dX8_isCover_21 (by decide +kernel) (fun c4 => ?_) (fun c4 => ?_)
    · have f4 := mt (ti_eq (a := r3.toInt) (b := 0) rfl (by decide +kernel)).mpr c4
      have s4 := sm_t hr3_0 c4
      refine lv_iconst (v := 0) hx hb dX8_isCover_44 (by decide +kernel) ?_
      exact ro_zret hx hb hr hlocks hS rfl dX8_isCover_45 ⟨(show 0 ≤ (0 : Int32).toInt ∧ (0 : Int32).toInt ≤ 1 from by decide +kernel), (show Sm (0 : Int32) (Cv (zX (c 106) (c 108) (i 111).toInt) (bT (c 150) 0) (bT (c 150) 5) ((1 : Int) ≤ b1.toInt) w.toInt) from sm_0 (fun h9 => h9.2.1 s4))⟩
    · have f4 := (ti_eq (a := r3.toInt) (b := 0) rfl (by decide +kernel)).mp c4
      have s4 := sm_f hr3_0 c4
      refine lv_iload_n hx hb dX8_isCover_24 rfl (lv_at hl 2 rfl) ?_
      refine lv_if_ne (tgt := 40) hx hb dX8_isCover_25 (by decide +kernel) (fun c5 => ?_) (fun c5 => ?_)
      · have f5 := mt (ti_eq (a := b1.toInt) (b := 0) rfl (by decide +kernel)).mpr c5
        refine lv_iconst (v := 1) hx hb dX8_isCover_40 (by decide +kernel) ?_
        refine lv_goto (tgt := 45) hx hb dX8_isCover_41 (by decide +kernel) ?_
        exact ro_zret hx hb hr hlocks hS rfl dX8_isCover_45 ⟨(show 0 ≤ (1 : Int32).toInt ∧ (1 : Int32).toInt ≤ 1 from by decide +kernel), (show Sm (1 : Int32) (Cv (zX (c 106) (c 108) (i 111).toInt) (bT (c 150) 0) (bT (c 150) 5) ((1 : Int) ≤ b1.toInt) w.toInt) from sm_1 ⟨by omega, s4, Or.inl (by omega)⟩)⟩
      · have f5 := (ti_eq (a := b1.toInt) (b := 0) rfl (by decide +kernel)).mp c5
        refine lv_aload_n hx hb dX8_isCover_28 rfl (lv_at hl 0 rfl) ?_
        refine xgT_TG_scene hx hb hts (fun _ h => List.mem_cons_of_mem _ (List.mem_append_left _ (List.mem_append_left _ (List.mem_append_right _ h)))) hown hK hP (hts (.fieldLink RX8 26 "TalePlay$Sight" "scene" "LTalePlay$Scene;") (List.mem_cons_of_mem _ (List.mem_append_left _ (List.mem_append_left _ (List.mem_append_left _ (List.mem_of_getElem? (i := 9) rfl)))))) dX8_isCover_29 ?_
        refine lv_iload_n hx hb dX8_isCover_32 rfl (lv_at hl 1 rfl) ?_
        refine lv_iconst (v := 5) hx hb dX8_isCover_33 (by decide +kernel) ?_
        refine ro_calli (va_runV (As := [.int w, .int 5]) (rest := []) ⟨hx, hb, hml, hown, hts⟩ (x_X6_has_eTS l D H.size .null a t i q c d w 5 hI (show 0 ≤ w.toInt ∧ w.toInt ≤ 29 from by have h91 : (5 : Int32).toInt = 5 := (by decide +kernel); omega) (show 0 ≤ 5 ∧ 5 ≤ 5 from by decide +kernel)) (cwV 2 hts gm_X8_isCover_eTG_X6_has_eTS_40 rfl rfl rfl (by decide +kernel) ⟨Nat.le_of_ble_eq_true rfl, Nat.le_of_ble_eq_true rfl⟩) (yA_V hN (xZ_k hZ hS hA) (xkT_P1 hK) (xuT_P1 (sk := sk) hP) (ci := 6) (q0 := 0) rfl rfl) rfl rfl hl.1 rfl (lv_room (Nat.le_of_ble_eq_true rfl)) dX8_isCover_34 ⟨Nat.le_of_ble_eq_true rfl, Nat.le_of_ble_eq_true rfl⟩) hS hA hP (fun r6 u6 H locs hw6 hP hS => ?_)
        have hw6 : ((0 ≤ r6.toInt ∧ r6.toInt ≤ 1) ∧ (Sm r6 (hbt (c 150 w.toInt.toNat) 5))) := hw6
        obtain ⟨hw6, hr6_0⟩ := hw6
        have hr6_0 : Sm r6 (hbt (c 150 w.toInt.toNat) 5) := hr6_0
        refine lv_if_ne (tgt := 44) hx hb dX8_isCover_37 (by decide +kernel) (fun c7 => ?_) (fun c7 => ?_)
        · have f7 := mt (ti_eq (a := r6.toInt) (b := 0) rfl (by decide +kernel)).mpr c7
          have s7 := sm_t hr6_0 c7
          refine lv_iconst (v := 0) hx hb dX8_isCover_44 (by decide +kernel) ?_
          exact ro_zret hx hb hr hlocks hS rfl dX8_isCover_45 ⟨(show 0 ≤ (0 : Int32).toInt ∧ (0 : Int32).toInt ≤ 1 from by decide +kernel), (show Sm (0 : Int32) (Cv (zX (c 106) (c 108) (i 111).toInt) (bT (c 150) 0) (bT (c 150) 5) ((1 : Int) ≤ b1.toInt) w.toInt) from sm_0 (fun h9 => h9.2.2.elim (fun h8 => by omega) (fun h8 => h8 s7)))⟩
        · have f7 := (ti_eq (a := r6.toInt) (b := 0) rfl (by decide +kernel)).mp c7
          have s7 := sm_f hr6_0 c7
          refine lv_iconst (v := 1) hx hb dX8_isCover_40 (by decide +kernel) ?_
          refine lv_goto (tgt := 45) hx hb dX8_isCover_41 (by decide +kernel) ?_
          exact ro_zret hx hb hr hlocks hS rfl dX8_isCover_45 ⟨(show 0 ≤ (1 : Int32).toInt ∧ (1 : Int32).toInt ≤ 1 from by decide +kernel), (show Sm (1 : Int32) (Cv (zX (c 106) (c 108) (i 111).toInt) (bT (c 150) 0) (bT (c 150) 5) ((1 : Int) ≤ b1.toInt) w.toInt) from sm_1 ⟨by omega, s4, Or.inr s7⟩)⟩

def wm_X8_shellOf_eTG : List Cond := .code yX8_shellOf cX8_shellOf 5 (some .int) :: ((([.fieldLink RX8 26 "TalePlay$Sight" "scene" "LTalePlay$Scene;", .methodLink RX8 62 yX6_holderOf, .instanceMethod yX6_holderOf, .selects RX6 yX6_holderOf yX6_holderOf, .initialized RX6, .code yX6_holderOf cX6_holderOf 3 (some .int), .fieldLink RX6 9 "TalePlay$Scene" "cells" "[I", .fieldLink RX8 18 "TalePlay$Sight" "world" "LTalePlay$World;", .methodLink RX8 34 yX10_sortOf, .instanceMethod yX10_sortOf, .selects RX10 yX10_sortOf yX10_sortOf, .initialized RX10, .code yX10_sortOf cX10_sortOf 2 (some .int), .fieldLink RX10 37 "TalePlay$World" "objects" "I", .fieldLink RX10 15 "TalePlay$World" "sorts" "[I", .fieldLink RX10 21 "TalePlay$World" "kindOf" "[I"] : List Cond) ++ ([.methodLink RX8 65 yX8_isCover, .instanceMethod yX8_isCover, .selects RX8 yX8_isCover yX8_isCover, .initialized RX8, .code yX8_isCover cX8_isCover 3 (some .boolean), .methodLink RX8 40 yX6_has, .instanceMethod yX6_has, .selects RX6 yX6_has yX6_has, .code yX6_has cX6_has 3 (some .boolean)] : List Cond)) ++ wsX80 ++ wsX60 ++ wsX100)
set_option maxRecDepth 20000 in
theorem gm_X8_shellOf_eTG_X6_holderOf_TS_62 : GoodIn wm_X8_shellOf_eTG (wsV RX8 62 RX6 yX6_holderOf wm_X6_holderOf_TS) := goodIn_w (List.forall_mem_append.mpr ⟨List.forall_mem_cons.mpr ⟨List.mem_cons_of_mem _ (List.mem_append_left _ (List.mem_append_left _ (List.mem_append_left _ (List.mem_append_left _ (List.mem_of_getElem? (i := 1) rfl))))), List.forall_mem_cons.mpr ⟨List.mem_cons_of_mem _ (List.mem_append_left _ (List.mem_append_left _ (List.mem_append_left _ (List.mem_append_left _ (List.mem_of_getElem? (i := 2) rfl))))), List.forall_mem_cons.mpr ⟨List.mem_cons_of_mem _ (List.mem_append_left _ (List.mem_append_left _ (List.mem_append_left _ (List.mem_append_left _ (List.mem_of_getElem? (i := 3) rfl))))), List.forall_mem_cons.mpr ⟨List.mem_cons_of_mem _ (List.mem_append_left _ (List.mem_append_left _ (List.mem_append_left _ (List.mem_append_left _ (List.mem_of_getElem? (i := 4) rfl))))), (fun _ h => absurd h List.not_mem_nil)⟩⟩⟩⟩, List.forall_mem_cons.mpr ⟨List.mem_cons_of_mem _ (List.mem_append_left _ (List.mem_append_left _ (List.mem_append_left _ (List.mem_append_left _ (List.mem_of_getElem? (i := 5) rfl))))), List.forall_mem_append.mpr ⟨List.forall_mem_cons.mpr ⟨List.mem_cons_of_mem _ (List.mem_append_left _ (List.mem_append_left _ (List.mem_append_left _ (List.mem_append_left _ (List.mem_of_getElem? (i := 6) rfl))))), (fun _ h => absurd h List.not_mem_nil)⟩, (fun _ h => List.mem_cons_of_mem _ (List.mem_append_left _ (List.mem_append_right _ h)))⟩⟩⟩) (by decide +kernel)
set_option maxRecDepth 20000 in
theorem gm_X8_shellOf_eTG_X10_sortOf_e_34 : GoodIn wm_X8_shellOf_eTG (wsV RX8 34 RX10 yX10_sortOf wm_X10_sortOf_e) := goodIn_w (List.forall_mem_append.mpr ⟨List.forall_mem_cons.mpr ⟨List.mem_cons_of_mem _ (List.mem_append_left _ (List.mem_append_left _ (List.mem_append_left _ (List.mem_append_left _ (List.mem_of_getElem? (i := 8) rfl))))), List.forall_mem_cons.mpr ⟨List.mem_cons_of_mem _ (List.mem_append_left _ (List.mem_append_left _ (List.mem_append_left _ (List.mem_append_left _ (List.mem_of_getElem? (i := 9) rfl))))), List.forall_mem_cons.mpr ⟨List.mem_cons_of_mem _ (List.mem_append_left _ (List.mem_append_left _ (List.mem_append_left _ (List.mem_append_left _ (List.mem_of_getElem? (i := 10) rfl))))), List.forall_mem_cons.mpr ⟨List.mem_cons_of_mem _ (List.mem_append_left _ (List.mem_append_left _ (List.mem_append_left _ (List.mem_append_left _ (List.mem_of_getElem? (i := 11) rfl))))), (fun _ h => absurd h List.not_mem_nil)⟩⟩⟩⟩, List.forall_mem_cons.mpr ⟨List.mem_cons_of_mem _ (List.mem_append_left _ (List.mem_append_left _ (List.mem_append_left _ (List.mem_append_left _ (List.mem_of_getElem? (i := 12) rfl))))), List.forall_mem_append.mpr ⟨List.forall_mem_cons.mpr ⟨List.mem_cons_of_mem _ (List.mem_append_left _ (List.mem_append_left _ (List.mem_append_left _ (List.mem_append_left _ (List.mem_of_getElem? (i := 13) rfl))))), List.forall_mem_cons.mpr ⟨List.mem_cons_of_mem _ (List.mem_append_left _ (List.mem_append_left _ (List.mem_append_left _ (List.mem_append_left _ (List.mem_of_getElem? (i := 14) rfl))))), List.forall_mem_cons.mpr ⟨List.mem_cons_of_mem _ (List.mem_append_left _ (List.mem_append_left _ (List.mem_append_left _ (List.mem_append_left _ (List.mem_of_getElem? (i := 15) rfl))))), (fun _ h => absurd h List.not_mem_nil)⟩⟩⟩, (fun _ h => List.mem_cons_of_mem _ (List.mem_append_right _ h))⟩⟩⟩) (by decide +kernel)
set_option maxRecDepth 20000 in
theorem gm_X8_shellOf_eTG_X8_isCover_eTG_65 : GoodIn wm_X8_shellOf_eTG (wsV RX8 65 RX8 yX8_isCover wm_X8_isCover_eTG) := goodIn_w (List.forall_mem_append.mpr ⟨List.forall_mem_cons.mpr ⟨List.mem_cons_of_mem _ (List.mem_append_left _ (List.mem_append_left _ (List.mem_append_left _ (List.mem_append_right _ (List.mem_of_getElem? (i := 0) rfl))))), List.forall_mem_cons.mpr ⟨List.mem_cons_of_mem _ (List.mem_append_left _ (List.mem_append_left _ (List.mem_append_left _ (List.mem_append_right _ (List.mem_of_getElem? (i := 1) rfl))))), List.forall_mem_cons.mpr ⟨List.mem_cons_of_mem _ (List.mem_append_left _ (List.mem_append_left _ (List.mem_append_left _ (List.mem_append_right _ (List.mem_of_getElem? (i := 2) rfl))))), List.forall_mem_cons.mpr ⟨List.mem_cons_of_mem _ (List.mem_append_left _ (List.mem_append_left _ (List.mem_append_left _ (List.mem_append_right _ (List.mem_of_getElem? (i := 3) rfl))))), (fun _ h => absurd h List.not_mem_nil)⟩⟩⟩⟩, List.forall_mem_cons.mpr ⟨List.mem_cons_of_mem _ (List.mem_append_left _ (List.mem_append_left _ (List.mem_append_left _ (List.mem_append_right _ (List.mem_of_getElem? (i := 4) rfl))))), List.forall_mem_append.mpr ⟨List.forall_mem_append.mpr ⟨List.forall_mem_append.mpr ⟨List.forall_mem_cons.mpr ⟨List.mem_cons_of_mem _ (List.mem_append_left _ (List.mem_append_left _ (List.mem_append_left _ (List.mem_append_left _ (List.mem_of_getElem? (i := 7) rfl))))), List.forall_mem_cons.mpr ⟨List.mem_cons_of_mem _ (List.mem_append_left _ (List.mem_append_left _ (List.mem_append_left _ (List.mem_append_left _ (List.mem_of_getElem? (i := 8) rfl))))), List.forall_mem_cons.mpr ⟨List.mem_cons_of_mem _ (List.mem_append_left _ (List.mem_append_left _ (List.mem_append_left _ (List.mem_append_left _ (List.mem_of_getElem? (i := 9) rfl))))), List.forall_mem_cons.mpr ⟨List.mem_cons_of_mem _ (List.mem_append_left _ (List.mem_append_left _ (List.mem_append_left _ (List.mem_append_left _ (List.mem_of_getElem? (i := 10) rfl))))), List.forall_mem_cons.mpr ⟨List.mem_cons_of_mem _ (List.mem_append_left _ (List.mem_append_left _ (List.mem_append_left _ (List.mem_append_left _ (List.mem_of_getElem? (i := 11) rfl))))), List.forall_mem_cons.mpr ⟨List.mem_cons_of_mem _ (List.mem_append_left _ (List.mem_append_left _ (List.mem_append_left _ (List.mem_append_left _ (List.mem_of_getElem? (i := 12) rfl))))), List.forall_mem_cons.mpr ⟨List.mem_cons_of_mem _ (List.mem_append_left _ (List.mem_append_left _ (List.mem_append_left _ (List.mem_append_left _ (List.mem_of_getElem? (i := 13) rfl))))), List.forall_mem_cons.mpr ⟨List.mem_cons_of_mem _ (List.mem_append_left _ (List.mem_append_left _ (List.mem_append_left _ (List.mem_append_left _ (List.mem_of_getElem? (i := 14) rfl))))), List.forall_mem_cons.mpr ⟨List.mem_cons_of_mem _ (List.mem_append_left _ (List.mem_append_left _ (List.mem_append_left _ (List.mem_append_left _ (List.mem_of_getElem? (i := 15) rfl))))), List.forall_mem_cons.mpr ⟨List.mem_cons_of_mem _ (List.mem_append_left _ (List.mem_append_left _ (List.mem_append_left _ (List.mem_append_left _ (List.mem_of_getElem? (i := 0) rfl))))), List.forall_mem_cons.mpr ⟨List.mem_cons_of_mem _ (List.mem_append_left _ (List.mem_append_left _ (List.mem_append_left _ (List.mem_append_right _ (List.mem_of_getElem? (i := 5) rfl))))), List.forall_mem_cons.mpr ⟨List.mem_cons_of_mem _ (List.mem_append_left _ (List.mem_append_left _ (List.mem_append_left _ (List.mem_append_right _ (List.mem_of_getElem? (i := 6) rfl))))), List.forall_mem_cons.mpr ⟨List.mem_cons_of_mem _ (List.mem_append_left _ (List.mem_append_left _ (List.mem_append_left _ (List.mem_append_right _ (List.mem_of_getElem? (i := 7) rfl))))), List.forall_mem_cons.mpr ⟨List.mem_cons_of_mem _ (List.mem_append_left _ (List.mem_append_left _ (List.mem_append_left _ (List.mem_append_left _ (List.mem_of_getElem? (i := 4) rfl))))), List.forall_mem_cons.mpr ⟨List.mem_cons_of_mem _ (List.mem_append_left _ (List.mem_append_left _ (List.mem_append_left _ (List.mem_append_right _ (List.mem_of_getElem? (i := 8) rfl))))), List.forall_mem_cons.mpr ⟨List.mem_cons_of_mem _ (List.mem_append_left _ (List.mem_append_left _ (List.mem_append_left _ (List.mem_append_left _ (List.mem_of_getElem? (i := 6) rfl))))), (fun _ h => absurd h List.not_mem_nil)⟩⟩⟩⟩⟩⟩⟩⟩⟩⟩⟩⟩⟩⟩⟩⟩, (fun _ h => List.mem_cons_of_mem _ (List.mem_append_left _ (List.mem_append_left _ (List.mem_append_right _ h))))⟩, (fun _ h => List.mem_cons_of_mem _ (List.mem_append_right _ h))⟩, (fun _ h => List.mem_cons_of_mem _ (List.mem_append_left _ (List.mem_append_right _ h)))⟩⟩⟩) (by decide +kernel)
set_option maxHeartbeats 4000000 in
set_option maxRecDepth 100000 in
theorem x_X8_shellOf_eTG (l : Launch) (D : va_G) (sz : Nat) (sk : Value) (a : Nat → Nat) (t : Nat → ClassId) (i : Nat → Int32) (q : Int64) (c : Nat → Nat → Int32) (d : Nat → Nat → Int64) (w : Int32) (b1 : Int32) (hI : xInv i c) (hw : 0 ≤ w.toInt ∧ w.toInt ≤ 29) (hb1 : 0 ≤ b1.toInt ∧ b1.toInt ≤ 1) : Met l yX8_shellOf wm_X8_shellOf_eTG ({ frames := 2, cells := 0, slots := 0, locals := 44 }) (va_Pc [.ref (a 151), .int w, .int b1] (yA (a 186) D sz (xwT sk a t i q c d) (xtT t))) (va_Qi (fun (r : Int32) (_ : Unit) => ((r.toInt = -9 ∨ (0 ≤ r.toInt ∧ r.toInt ≤ 29)) ∧ (r.toInt = shl (zX (c 106) (c 108) (i 111).toInt) (hF (c 150)) (bT (c 150) 0) (bT (c 150) 5) ((1 : Int) ≤ b1.toInt) w.toInt))) oA (ro sz)) 0 0 (ro sz) := by
  refine Met.ofW (cc := cX8_shellOf) (maxL := 5) (ret := (some .int)) (by decide +kernel) rfl ?_
  intro p e s m args below meth cd s₁ B hml hv
  obtain ⟨rfl, ⟨hsz, hP, hK⟩, hN, hZ⟩ := hv
  have hx := B.exec
  have hb := B.bytes
  have hr := B.returns
  have hts := atoms_spec (ws := wm_X8_shellOf_eTG) B.pre
  have hown : s.vm.findClass RX8 = some m.cls := findClass_of_methodNamed B.named
  have hlocks := B.notSynchronized
  subst hsz
  have hA : ∀ q : Nat, s.heap.size ≤ q → ro s.heap.size q := fun _ h => h
  have hS : va_S (ro s.heap.size) s.heap s.heap [] := va_S.rf
  have hl := lv_entry ([.ref (a 151), .int w, .int b1]) (n := 5) (Nat.le_of_ble_eq_true rfl)
  rw [lg_entry_eq]
  generalize (lg_sl ([.ref (a 151), .int w, .int b1]) ++ List.replicate (5 - (lg_sl ([.ref (a 151), .int w, .int b1])).length) Slot.unset).toArray = ls at hl ⊢
  have hl : lv_has ls 5 [(0, .ref (a 151)), (1, .int w), (2, .int b1)] := hl
  have rb111_i : 0 ≤ (i 111).toInt ∧ (i 111).toInt ≤ 30 := hI.1 111
  refine lv_aload_n hx hb dX8_shellOf_0 rfl (lv_at hl 0 rfl) ?_
  refine xgT_TG_scene hx hb hts (fun _ h => List.mem_cons_of_mem _ (List.mem_append_left _ (List.mem_append_left _ (List.mem_append_right _ h)))) hown hK hP (hts (.fieldLink RX8 26 "TalePlay$Sight" "scene" "LTalePlay$Scene;") (List.mem_cons_of_mem _ (List.mem_append_left _ (List.mem_append_left _ (List.mem_append_left _ (List.mem_append_left _ (List.mem_of_getElem? (i := 0) rfl))))))) dX8_shellOf_1 ?_
  refine lv_iload_n hx hb dX8_shellOf_4 rfl (lv_at hl 1 rfl) ?_
  refine ro_calli (va_runV (As := [.int w]) (rest := []) ⟨hx, hb, hml, hown, hts⟩ (x_X6_holderOf_TS l D s.heap.size .null a t i q c d w hI (show 0 ≤ w.toInt ∧ w.toInt ≤ 29 from by omega)) (cwV 1 hts gm_X8_shellOf_eTG_X6_holderOf_TS_62 rfl rfl rfl (by decide +kernel) ⟨Nat.le_of_ble_eq_true rfl, Nat.le_of_ble_eq_true rfl⟩) (yA_V hN (xZ_k hZ hS hA) (xkT_P1 hK) (xuT_P1 (sk := sk) hP) (ci := 6) (q0 := 0) rfl rfl) rfl rfl hl.1 rfl (lv_room (Nat.le_of_ble_eq_true rfl)) dX8_shellOf_5 ⟨Nat.le_of_ble_eq_true rfl, Nat.le_of_ble_eq_true rfl⟩) hS hA hP (fun r1 u1 H locs hw1 hP hS => ?_)
  have hw1 : ((r1.toInt = -9 ∧ (c 150 w.toNatClampNeg).toInt % 256 = 255) ∨ (0 ≤ r1.toInt ∧ r1.toInt ≤ 29 ∧ ¬ (c 150 w.toNatClampNeg).toInt % 256 = 255 ∧ r1.toInt = (c 150 w.toNatClampNeg).toInt / 8 % 32)) := hw1
  have hh0 : (hF (c 150)) w.toInt = r1.toInt := hF_at (by omega) hw1
  refine lv_istore_n (lv' := [(3, .int r1), (0, .ref (a 151)), (1, .int w), (2, .int b1)]) hx hb dX8_shellOf_8 rfl hl (by decide +kernel) rfl (fun ls hl => ?_)
  refine lv_iconst (v := 0) hx hb dX8_shellOf_9 (by decide +kernel) ?_
  refine lv_istore (lv' := [(4, .int 0), (3, .int r1), (0, .ref (a 151)), (1, .int w), (2, .int b1)]) hx hb dX8_shellOf_10 hl (by decide +kernel) rfl (fun ls hl => ?_)
  have lp2 : ∀ (fu : Nat) (y2_4 : Int32) (y2_3 : Int32), (0 ≤ y2_4.toInt ∧ y2_4.toInt ≤ 30) → (y2_3.toInt = -9 ∨ (0 ≤ y2_3.toInt ∧ y2_3.toInt ≤ 29)) → (ShB (hF (c 150)) (StpC (zX (c 106) (c 108) (i 111).toInt) (bT (c 150) 0) (bT (c 150) 5) ((1 : Int) ≤ b1.toInt)) 30 ((hF (c 150)) w.toInt) = ShB (hF (c 150)) (StpC (zX (c 106) (c 108) (i 111).toInt) (bT (c 150) 0) (bT (c 150) 5) ((1 : Int) ≤ b1.toInt)) (30 - y2_4.toInt.toNat) y2_3.toInt) → (30 - y2_4.toInt).toNat < fu → ∀ (H : Heap) (locs : List Loc) (ls : Array Slot), va_P D vwCl (xwT sk a t i q c d) H → va_S (ro s.heap.size) s.heap H locs → lv_has ls 5 [(4, .int y2_4), (3, .int y2_3), (0, .ref (a 151)), (1, .int w), (2, .int b1)] → W p l e (headSpec wm_X8_shellOf_eTG ({ frames := 2, cells := 0, slots := 0, locals := 44 })).room s m ([.ref (a 151), .int w, .int b1] : List Value).toArray below meth cd H locs 0 0 (MQ below (va_Qi (fun (r : Int32) (_ : Unit) => ((r.toInt = -9 ∨ (0 ≤ r.toInt ∧ r.toInt ≤ 29)) ∧ (r.toInt = shl (zX (c 106) (c 108) (i 111).toInt) (hF (c 150)) (bT (c 150) 0) (bT (c 150) 5) ((1 : Int) ≤ b1.toInt) w.toInt))) oA (ro s.heap.size)) ([.ref (a 151), .int w, .int b1] : List Value).toArray s 0 0 (ro s.heap.size)) (F0 m 12 ls []) := by
    intro fu
    induction fu with
    | zero => intro y2_4 y2_3 hy2_4 hy2_3 hz2_0 hm; exact absurd hm (Nat.not_lt_zero _)
    | succ fu ih =>
      intro y2_4 y2_3 hy2_4 hy2_3 hz2_0 hm H locs ls hP hS hl
      have ih2 := ih
      refine lv_iload hx hb dX8_shellOf_12 (lv_at hl 0 rfl) ?_
      refine lv_bipush (v := 30) hx hb dX8_shellOf_14 (by decide +kernel) ?_
      refine lv_icmp_ge (tgt := 62) hx hb dX8_shellOf_16 (by decide +kernel) (fun c3 => ?_) (fun c3 => ?_)
      · have f3 := (ti_le (a := 30) (b := y2_4.toInt) (by decide +kernel) rfl).mp c3
        refine lv_bipush (v := (-9)) hx hb dX8_shellOf_62 (by decide +kernel) ?_
        exact ro_iret hx hb hr hlocks hS dX8_shellOf_64 ⟨(show ((-9) : Int32).toInt = -9 ∨ (0 ≤ ((-9) : Int32).toInt ∧ ((-9) : Int32).toInt ≤ 29) from by decide +kernel), (show ((-9) : Int32).toInt = shl (zX (c 106) (c 108) (i 111).toInt) (hF (c 150)) (bT (c 150) 0) (bT (c 150) 5) ((1 : Int) ≤ b1.toInt) w.toInt from show _ = ShB (hF (c 150)) (StpC (zX (c 106) (c 108) (i 111).toInt) (bT (c 150) 0) (bT (c 150) 5) ((1 : Int) ≤ b1.toInt)) 30 ((hF (c 150)) w.toInt) from by rw [show ((-9) : Int32).toInt = -9 by decide]; exact ShB_z hz2_0 (by omega))⟩
      · have f3 := mt (ti_le (a := 30) (b := y2_4.toInt) (by decide +kernel) rfl).mpr c3
        refine lv_iload_n hx hb dX8_shellOf_19 rfl (lv_at hl 1 rfl) ?_
        refine lv_bipush (v := (-9)) hx hb dX8_shellOf_20 (by decide +kernel) ?_
        refine lv_icmp_eq (tgt := 62) hx hb dX8_shellOf_22 (by decide +kernel) (fun c4 => ?_) (fun c4 => ?_)
        · have f4 := (ti_eq (a := y2_3.toInt) (b := (-9)) rfl (by decide +kernel)).mp c4
          refine lv_bipush (v := (-9)) hx hb dX8_shellOf_62 (by decide +kernel) ?_
          exact ro_iret hx hb hr hlocks hS dX8_shellOf_64 ⟨(show ((-9) : Int32).toInt = -9 ∨ (0 ≤ ((-9) : Int32).toInt ∧ ((-9) : Int32).toInt ≤ 29) from by decide +kernel), (show ((-9) : Int32).toInt = shl (zX (c 106) (c 108) (i 111).toInt) (hF (c 150)) (bT (c 150) 0) (bT (c 150) 5) ((1 : Int) ≤ b1.toInt) w.toInt from show _ = ShB (hF (c 150)) (StpC (zX (c 106) (c 108) (i 111).toInt) (bT (c 150) 0) (bT (c 150) 5) ((1 : Int) ≤ b1.toInt)) 30 ((hF (c 150)) w.toInt) from by rw [show ((-9) : Int32).toInt = -9 by decide]; exact ShB_z hz2_0 (by omega))⟩
        · have f4 := mt (ti_eq (a := y2_3.toInt) (b := (-9)) rfl (by decide +kernel)).mpr c4
          refine lv_aload_n hx hb dX8_shellOf_25 rfl (lv_at hl 2 rfl) ?_
          refine xgT_TG_world hx hb hts (fun _ h => List.mem_cons_of_mem _ (List.mem_append_left _ (List.mem_append_left _ (List.mem_append_right _ h)))) hown hK hP (hts (.fieldLink RX8 18 "TalePlay$Sight" "world" "LTalePlay$World;") (List.mem_cons_of_mem _ (List.mem_append_left _ (List.mem_append_left _ (List.mem_append_left _ (List.mem_append_left _ (List.mem_of_getElem? (i := 7) rfl))))))) dX8_shellOf_26 ?_
          refine lv_iload_n hx hb dX8_shellOf_29 rfl (lv_at hl 1 rfl) ?_
          refine ro_calli (va_runV (As := [.int y2_3]) (rest := []) ⟨hx, hb, hml, hown, hts⟩ (x_X10_sortOf_e l D H.size .null a t i q c d y2_3 hI ) (cwV 1 hts gm_X8_shellOf_eTG_X10_sortOf_e_34 rfl rfl rfl (by decide +kernel) ⟨Nat.le_of_ble_eq_true rfl, Nat.le_of_ble_eq_true rfl⟩) (yA_V hN (xZ_k hZ hS hA) (xkT_W hK) (xuT_W (sk := sk) hP) (ci := 10) (q0 := 0) rfl rfl) rfl rfl hl.1 rfl (lv_room (Nat.le_of_ble_eq_true rfl)) dX8_shellOf_30 ⟨Nat.le_of_ble_eq_true rfl, Nat.le_of_ble_eq_true rfl⟩) hS hA hP (fun r5 u5 H locs hw5 hP hS => ?_)
          have hw5 : (((r5.toInt = -9 ∧ ¬ (0 ≤ y2_3.toInt ∧ y2_3.toInt < (i 111).toInt)) ∨ (0 ≤ r5.toInt ∧ r5.toInt ≤ 5 ∧ 0 ≤ y2_3.toInt ∧ y2_3.toInt < (i 111).toInt)) ∧ (SO (c 106) (c 108) (i 111).toInt y2_3.toInt r5.toInt)) := hw5
          obtain ⟨hw5, hr5_0⟩ := hw5
          have hr5_0 : SO (c 106) (c 108) (i 111).toInt y2_3.toInt r5.toInt := hr5_0
          have hzo : r5.toInt = (zX (c 106) (c 108) (i 111).toInt) y2_3.toInt := SO_z hr5_0
          refine lv_if_eq (tgt := 45) hx hb dX8_shellOf_33 (by decide +kernel) (fun c6 => ?_) (fun c6 => ?_)
          · have f6 := (ti_eq (a := r5.toInt) (b := 0) rfl (by decide +kernel)).mp c6
            refine lv_iload_n hx hb dX8_shellOf_45 rfl (lv_at hl 1 rfl) ?_
            exact ro_iret hx hb hr hlocks hS dX8_shellOf_46 ⟨(show y2_3.toInt = -9 ∨ (0 ≤ y2_3.toInt ∧ y2_3.toInt ≤ 29) from by omega), (show y2_3.toInt = shl (zX (c 106) (c 108) (i 111).toInt) (hF (c 150)) (bT (c 150) 0) (bT (c 150) 5) ((1 : Int) ≤ b1.toInt) w.toInt from show _ = ShB (hF (c 150)) (StpC (zX (c 106) (c 108) (i 111).toInt) (bT (c 150) 0) (bT (c 150) 5) ((1 : Int) ≤ b1.toInt)) 30 ((hF (c 150)) w.toInt) from ShB_r hz2_0 (by omega) (by omega) (Or.inl (by omega)))⟩
          · have f6 := mt (ti_eq (a := r5.toInt) (b := 0) rfl (by decide +kernel)).mpr c6
            refine lv_aload_n hx hb dX8_shellOf_36 rfl (lv_at hl 2 rfl) ?_
            refine lv_iload_n hx hb dX8_shellOf_37 rfl (lv_at hl 1 rfl) ?_
            refine lv_iload_n hx hb dX8_shellOf_38 rfl (lv_at hl 4 rfl) ?_
            refine ro_calli (va_runV (As := [.int y2_3, .int b1]) (rest := []) ⟨hx, hb, hml, hown, hts⟩ (x_X8_isCover_eTG l D H.size sk a t i q c d y2_3 b1 hI (show 0 ≤ b1.toInt ∧ b1.toInt ≤ 1 from by omega)) (cwV 2 hts gm_X8_shellOf_eTG_X8_isCover_eTG_65 rfl rfl rfl (by decide +kernel) ⟨Nat.le_of_ble_eq_true rfl, Nat.le_of_ble_eq_true rfl⟩) (yA_V hN (xZ_k hZ hS hA) hK hP (ci := 8) (q0 := 39) rfl rfl) rfl rfl hl.1 rfl (lv_room (Nat.le_of_ble_eq_true rfl)) dX8_shellOf_39 ⟨Nat.le_of_ble_eq_true rfl, Nat.le_of_ble_eq_true rfl⟩) hS hA hP (fun r7 u7 H locs hw7 hP hS => ?_)
            have hw7 : ((0 ≤ r7.toInt ∧ r7.toInt ≤ 1) ∧ (Sm r7 (Cv (zX (c 106) (c 108) (i 111).toInt) (bT (c 150) 0) (bT (c 150) 5) ((1 : Int) ≤ b1.toInt) y2_3.toInt))) := hw7
            obtain ⟨hw7, hr7_0⟩ := hw7
            have hr7_0 : Sm r7 (Cv (zX (c 106) (c 108) (i 111).toInt) (bT (c 150) 0) (bT (c 150) 5) ((1 : Int) ≤ b1.toInt) y2_3.toInt) := hr7_0
            refine lv_if_eq (tgt := 47) hx hb dX8_shellOf_42 (by decide +kernel) (fun c8 => ?_) (fun c8 => ?_)
            · have f8 := (ti_eq (a := r7.toInt) (b := 0) rfl (by decide +kernel)).mp c8
              have s8 := sm_f hr7_0 c8
              refine lv_aload_n hx hb dX8_shellOf_47 rfl (lv_at hl 2 rfl) ?_
              refine xgT_TG_scene hx hb hts (fun _ h => List.mem_cons_of_mem _ (List.mem_append_left _ (List.mem_append_left _ (List.mem_append_right _ h)))) hown hK hP (hts (.fieldLink RX8 26 "TalePlay$Sight" "scene" "LTalePlay$Scene;") (List.mem_cons_of_mem _ (List.mem_append_left _ (List.mem_append_left _ (List.mem_append_left _ (List.mem_append_left _ (List.mem_of_getElem? (i := 0) rfl))))))) dX8_shellOf_48 ?_
              refine lv_iload_n hx hb dX8_shellOf_51 rfl (lv_at hl 1 rfl) ?_
              refine ro_calli (va_runV (As := [.int y2_3]) (rest := []) ⟨hx, hb, hml, hown, hts⟩ (x_X6_holderOf_TS l D H.size .null a t i q c d y2_3 hI (show 0 ≤ y2_3.toInt ∧ y2_3.toInt ≤ 29 from by omega)) (cwV 1 hts gm_X8_shellOf_eTG_X6_holderOf_TS_62 rfl rfl rfl (by decide +kernel) ⟨Nat.le_of_ble_eq_true rfl, Nat.le_of_ble_eq_true rfl⟩) (yA_V hN (xZ_k hZ hS hA) (xkT_P1 hK) (xuT_P1 (sk := sk) hP) (ci := 6) (q0 := 0) rfl rfl) rfl rfl hl.1 rfl (lv_room (Nat.le_of_ble_eq_true rfl)) dX8_shellOf_52 ⟨Nat.le_of_ble_eq_true rfl, Nat.le_of_ble_eq_true rfl⟩) hS hA hP (fun r9 u9 H locs hw9 hP hS => ?_)
              have hw9 : ((r9.toInt = -9 ∧ (c 150 y2_3.toNatClampNeg).toInt % 256 = 255) ∨ (0 ≤ r9.toInt ∧ r9.toInt ≤ 29 ∧ ¬ (c 150 y2_3.toNatClampNeg).toInt % 256 = 255 ∧ r9.toInt = (c 150 y2_3.toNatClampNeg).toInt / 8 % 32)) := hw9
              have hh1 : (hF (c 150)) y2_3.toInt = r9.toInt := hF_at (by omega) hw9
              refine lv_istore_n (lv' := [(3, .int r9), (4, .int y2_4), (0, .ref (a 151)), (1, .int w), (2, .int b1)]) hx hb dX8_shellOf_55 rfl hl (by decide +kernel) rfl (fun ls hl => ?_)
              obtain ⟨x10, ex10⟩ : ∃ y : Int32, y = y2_4 + 1 := ⟨_, rfl⟩
              have tx10 := ti_add (a := y2_4.toInt) (b := 1) ex10 rfl (by decide +kernel) (by omega) (by omega)
              refine lv_iinc (v := x10) (lv' := [(4, .int x10), (3, .int r9), (0, .ref (a 151)), (1, .int w), (2, .int b1)]) hx hb dX8_shellOf_56 hl (k := 1) rfl (by rw [ex10]; rfl) (by decide +kernel) rfl (fun ls hl => ?_)
              refine lv_goto (tgt := 12) hx hb dX8_shellOf_59 (by decide +kernel) ?_
              exact ih2 x10 r9 (show 0 ≤ x10.toInt ∧ x10.toInt ≤ 30 from by have h50 : x10.toInt = (y2_4.toInt + 1) := tx10; omega) (show r9.toInt = -9 ∨ (0 ≤ r9.toInt ∧ r9.toInt ≤ 29) from by have h50 : x10.toInt = (y2_4.toInt + 1) := tx10; omega) (show ShB (hF (c 150)) (StpC (zX (c 106) (c 108) (i 111).toInt) (bT (c 150) 0) (bT (c 150) 5) ((1 : Int) ≤ b1.toInt)) 30 ((hF (c 150)) w.toInt) = ShB (hF (c 150)) (StpC (zX (c 106) (c 108) (i 111).toInt) (bT (c 150) 0) (bT (c 150) 5) ((1 : Int) ≤ b1.toInt)) (30 - x10.toInt.toNat) r9.toInt from ShB_s hz2_0 (by omega) tx10 (by omega) (fun h9 => h9.elim (fun h8 => by omega) s8) hh1) (by have h50 : x10.toInt = (y2_4.toInt + 1) := tx10; omega) _ _ _ hP hS (lv_sub hl [0, 1, 2, 3, 4] rfl)
            · have f8 := mt (ti_eq (a := r7.toInt) (b := 0) rfl (by decide +kernel)).mpr c8
              have s8 := sm_t hr7_0 c8
              refine lv_iload_n hx hb dX8_shellOf_45 rfl (lv_at hl 1 rfl) ?_
              exact ro_iret hx hb hr hlocks hS dX8_shellOf_46 ⟨(show y2_3.toInt = -9 ∨ (0 ≤ y2_3.toInt ∧ y2_3.toInt ≤ 29) from by omega), (show y2_3.toInt = shl (zX (c 106) (c 108) (i 111).toInt) (hF (c 150)) (bT (c 150) 0) (bT (c 150) 5) ((1 : Int) ≤ b1.toInt) w.toInt from show _ = ShB (hF (c 150)) (StpC (zX (c 106) (c 108) (i 111).toInt) (bT (c 150) 0) (bT (c 150) 5) ((1 : Int) ≤ b1.toInt)) 30 ((hF (c 150)) w.toInt) from ShB_r hz2_0 (by omega) (by omega) (Or.inr s8))⟩
  exact lp2 _ (0 : Int32) r1 (show 0 ≤ (0 : Int32).toInt ∧ (0 : Int32).toInt ≤ 30 from by decide +kernel) (show r1.toInt = -9 ∨ (0 ≤ r1.toInt ∧ r1.toInt ≤ 29) from by have h50 : (0 : Int32).toInt = 0 := (by decide +kernel); omega) (show ShB (hF (c 150)) (StpC (zX (c 106) (c 108) (i 111).toInt) (bT (c 150) 0) (bT (c 150) 5) ((1 : Int) ≤ b1.toInt)) 30 ((hF (c 150)) w.toInt) = ShB (hF (c 150)) (StpC (zX (c 106) (c 108) (i 111).toInt) (bT (c 150) 0) (bT (c 150) 5) ((1 : Int) ≤ b1.toInt)) (30 - (0 : Int32).toInt.toNat) r1.toInt from ShB_e (by decide +kernel) hh0) (Nat.lt_succ_self _) _ _ _ hP hS (lv_sub hl [0, 1, 2, 3, 4] rfl)

def wm_X8_isInView_eTG : List Cond := .code yX8_isInView cX8_isInView 6 (some .boolean) :: ((([.fieldLink RX8 18 "TalePlay$Sight" "world" "LTalePlay$World;", .methodLink RX8 34 yX10_sortOf, .instanceMethod yX10_sortOf, .selects RX10 yX10_sortOf yX10_sortOf, .initialized RX10, .code yX10_sortOf cX10_sortOf 2 (some .int), .fieldLink RX10 37 "TalePlay$World" "objects" "I", .fieldLink RX10 15 "TalePlay$World" "sorts" "[I", .fieldLink RX10 21 "TalePlay$World" "kindOf" "[I", .fieldLink RX8 26 "TalePlay$Sight" "scene" "LTalePlay$Scene;", .methodLink RX8 62 yX6_holderOf, .instanceMethod yX6_holderOf, .selects RX6 yX6_holderOf yX6_holderOf, .initialized RX6, .code yX6_holderOf cX6_holderOf 3 (some .int), .fieldLink RX6 9 "TalePlay$Scene" "cells" "[I"] : List Cond) ++ (([.methodLink RX8 65 yX8_isCover, .instanceMethod yX8_isCover, .selects RX8 yX8_isCover yX8_isCover, .initialized RX8, .code yX8_isCover cX8_isCover 3 (some .boolean), .methodLink RX8 40 yX6_has, .instanceMethod yX6_has, .selects RX6 yX6_has yX6_has, .code yX6_has cX6_has 3 (some .boolean), .fieldLink RX8 22 "TalePlay$Sight" "roads" "LTalePlay$Roads;", .methodLink RX8 69 yX5_isSide, .instanceMethod yX5_isSide, .selects RX5 yX5_isSide yX5_isSide, .initialized RX5, .code yX5_isSide cX5_isSide 3 (some .boolean), .fieldLink RX5 24 "TalePlay$Roads" "firstSides" "[I"] : List Cond) ++ ([.fieldLink RX5 27 "TalePlay$Roads" "secondSides" "[I"] : List Cond))) ++ wsX80 ++ wsX100 ++ wsX60 ++ wsX50)
set_option maxRecDepth 20000 in
theorem gm_X8_isInView_eTG_X10_sortOf_e_34 : GoodIn wm_X8_isInView_eTG (wsV RX8 34 RX10 yX10_sortOf wm_X10_sortOf_e) := goodIn_w (List.forall_mem_append.mpr ⟨List.forall_mem_cons.mpr ⟨List.mem_cons_of_mem _ (List.mem_append_left _ (List.mem_append_left _ (List.mem_append_left _ (List.mem_append_left _ (List.mem_append_left _ (List.mem_of_getElem? (i := 1) rfl)))))), List.forall_mem_cons.mpr ⟨List.mem_cons_of_mem _ (List.mem_append_left _ (List.mem_append_left _ (List.mem_append_left _ (List.mem_append_left _ (List.mem_append_left _ (List.mem_of_getElem? (i := 2) rfl)))))), List.forall_mem_cons.mpr ⟨List.mem_cons_of_mem _ (List.mem_append_left _ (List.mem_append_left _ (List.mem_append_left _ (List.mem_append_left _ (List.mem_append_left _ (List.mem_of_getElem? (i := 3) rfl)))))), List.forall_mem_cons.mpr ⟨List.mem_cons_of_mem _ (List.mem_append_left _ (List.mem_append_left _ (List.mem_append_left _ (List.mem_append_left _ (List.mem_append_left _ (List.mem_of_getElem? (i := 4) rfl)))))), (fun _ h => absurd h List.not_mem_nil)⟩⟩⟩⟩, List.forall_mem_cons.mpr ⟨List.mem_cons_of_mem _ (List.mem_append_left _ (List.mem_append_left _ (List.mem_append_left _ (List.mem_append_left _ (List.mem_append_left _ (List.mem_of_getElem? (i := 5) rfl)))))), List.forall_mem_append.mpr ⟨List.forall_mem_cons.mpr ⟨List.mem_cons_of_mem _ (List.mem_append_left _ (List.mem_append_left _ (List.mem_append_left _ (List.mem_append_left _ (List.mem_append_left _ (List.mem_of_getElem? (i := 6) rfl)))))), List.forall_mem_cons.mpr ⟨List.mem_cons_of_mem _ (List.mem_append_left _ (List.mem_append_left _ (List.mem_append_left _ (List.mem_append_left _ (List.mem_append_left _ (List.mem_of_getElem? (i := 7) rfl)))))), List.forall_mem_cons.mpr ⟨List.mem_cons_of_mem _ (List.mem_append_left _ (List.mem_append_left _ (List.mem_append_left _ (List.mem_append_left _ (List.mem_append_left _ (List.mem_of_getElem? (i := 8) rfl)))))), (fun _ h => absurd h List.not_mem_nil)⟩⟩⟩, (fun _ h => List.mem_cons_of_mem _ (List.mem_append_left _ (List.mem_append_left _ (List.mem_append_right _ h))))⟩⟩⟩) (by decide +kernel)
set_option maxRecDepth 20000 in
theorem gm_X8_isInView_eTG_X6_holderOf_TS_62 : GoodIn wm_X8_isInView_eTG (wsV RX8 62 RX6 yX6_holderOf wm_X6_holderOf_TS) := goodIn_w (List.forall_mem_append.mpr ⟨List.forall_mem_cons.mpr ⟨List.mem_cons_of_mem _ (List.mem_append_left _ (List.mem_append_left _ (List.mem_append_left _ (List.mem_append_left _ (List.mem_append_left _ (List.mem_of_getElem? (i := 10) rfl)))))), List.forall_mem_cons.mpr ⟨List.mem_cons_of_mem _ (List.mem_append_left _ (List.mem_append_left _ (List.mem_append_left _ (List.mem_append_left _ (List.mem_append_left _ (List.mem_of_getElem? (i := 11) rfl)))))), List.forall_mem_cons.mpr ⟨List.mem_cons_of_mem _ (List.mem_append_left _ (List.mem_append_left _ (List.mem_append_left _ (List.mem_append_left _ (List.mem_append_left _ (List.mem_of_getElem? (i := 12) rfl)))))), List.forall_mem_cons.mpr ⟨List.mem_cons_of_mem _ (List.mem_append_left _ (List.mem_append_left _ (List.mem_append_left _ (List.mem_append_left _ (List.mem_append_left _ (List.mem_of_getElem? (i := 13) rfl)))))), (fun _ h => absurd h List.not_mem_nil)⟩⟩⟩⟩, List.forall_mem_cons.mpr ⟨List.mem_cons_of_mem _ (List.mem_append_left _ (List.mem_append_left _ (List.mem_append_left _ (List.mem_append_left _ (List.mem_append_left _ (List.mem_of_getElem? (i := 14) rfl)))))), List.forall_mem_append.mpr ⟨List.forall_mem_cons.mpr ⟨List.mem_cons_of_mem _ (List.mem_append_left _ (List.mem_append_left _ (List.mem_append_left _ (List.mem_append_left _ (List.mem_append_left _ (List.mem_of_getElem? (i := 15) rfl)))))), (fun _ h => absurd h List.not_mem_nil)⟩, (fun _ h => List.mem_cons_of_mem _ (List.mem_append_left _ (List.mem_append_right _ h)))⟩⟩⟩) (by decide +kernel)
set_option maxRecDepth 20000 in
theorem gm_X8_isInView_eTG_X8_isCover_eTG_65 : GoodIn wm_X8_isInView_eTG (wsV RX8 65 RX8 yX8_isCover wm_X8_isCover_eTG) := goodIn_w (List.forall_mem_append.mpr ⟨List.forall_mem_cons.mpr ⟨List.mem_cons_of_mem _ (List.mem_append_left _ (List.mem_append_left _ (List.mem_append_left _ (List.mem_append_left _ (List.mem_append_right _ (List.mem_append_left _ (List.mem_of_getElem? (i := 0) rfl))))))), List.forall_mem_cons.mpr ⟨List.mem_cons_of_mem _ (List.mem_append_left _ (List.mem_append_left _ (List.mem_append_left _ (List.mem_append_left _ (List.mem_append_right _ (List.mem_append_left _ (List.mem_of_getElem? (i := 1) rfl))))))), List.forall_mem_cons.mpr ⟨List.mem_cons_of_mem _ (List.mem_append_left _ (List.mem_append_left _ (List.mem_append_left _ (List.mem_append_left _ (List.mem_append_right _ (List.mem_append_left _ (List.mem_of_getElem? (i := 2) rfl))))))), List.forall_mem_cons.mpr ⟨List.mem_cons_of_mem _ (List.mem_append_left _ (List.mem_append_left _ (List.mem_append_left _ (List.mem_append_left _ (List.mem_append_right _ (List.mem_append_left _ (List.mem_of_getElem? (i := 3) rfl))))))), (fun _ h => absurd h List.not_mem_nil)⟩⟩⟩⟩, List.forall_mem_cons.mpr ⟨List.mem_cons_of_mem _ (List.mem_append_left _ (List.mem_append_left _ (List.mem_append_left _ (List.mem_append_left _ (List.mem_append_right _ (List.mem_append_left _ (List.mem_of_getElem? (i := 4) rfl))))))), List.forall_mem_append.mpr ⟨List.forall_mem_append.mpr ⟨List.forall_mem_append.mpr ⟨List.forall_mem_cons.mpr ⟨List.mem_cons_of_mem _ (List.mem_append_left _ (List.mem_append_left _ (List.mem_append_left _ (List.mem_append_left _ (List.mem_append_left _ (List.mem_of_getElem? (i := 0) rfl)))))), List.forall_mem_cons.mpr ⟨List.mem_cons_of_mem _ (List.mem_append_left _ (List.mem_append_left _ (List.mem_append_left _ (List.mem_append_left _ (List.mem_append_left _ (List.mem_of_getElem? (i := 1) rfl)))))), List.forall_mem_cons.mpr ⟨List.mem_cons_of_mem _ (List.mem_append_left _ (List.mem_append_left _ (List.mem_append_left _ (List.mem_append_left _ (List.mem_append_left _ (List.mem_of_getElem? (i := 2) rfl)))))), List.forall_mem_cons.mpr ⟨List.mem_cons_of_mem _ (List.mem_append_left _ (List.mem_append_left _ (List.mem_append_left _ (List.mem_append_left _ (List.mem_append_left _ (List.mem_of_getElem? (i := 3) rfl)))))), List.forall_mem_cons.mpr ⟨List.mem_cons_of_mem _ (List.mem_append_left _ (List.mem_append_left _ (List.mem_append_left _ (List.mem_append_left _ (List.mem_append_left _ (List.mem_of_getElem? (i := 4) rfl)))))), List.forall_mem_cons.mpr ⟨List.mem_cons_of_mem _ (List.mem_append_left _ (List.mem_append_left _ (List.mem_append_left _ (List.mem_append_left _ (List.mem_append_left _ (List.mem_of_getElem? (i := 5) rfl)))))), List.forall_mem_cons.mpr ⟨List.mem_cons_of_mem _ (List.mem_append_left _ (List.mem_append_left _ (List.mem_append_left _ (List.mem_append_left _ (List.mem_append_left _ (List.mem_of_getElem? (i := 6) rfl)))))), List.forall_mem_cons.mpr ⟨List.mem_cons_of_mem _ (List.mem_append_left _ (List.mem_append_left _ (List.mem_append_left _ (List.mem_append_left _ (List.mem_append_left _ (List.mem_of_getElem? (i := 7) rfl)))))), List.forall_mem_cons.mpr ⟨List.mem_cons_of_mem _ (List.mem_append_left _ (List.mem_append_left _ (List.mem_append_left _ (List.mem_append_left _ (List.mem_append_left _ (List.mem_of_getElem? (i := 8) rfl)))))), List.forall_mem_cons.mpr ⟨List.mem_cons_of_mem _ (List.mem_append_left _ (List.mem_append_left _ (List.mem_append_left _ (List.mem_append_left _ (List.mem_append_left _ (List.mem_of_getElem? (i := 9) rfl)))))), List.forall_mem_cons.mpr ⟨List.mem_cons_of_mem _ (List.mem_append_left _ (List.mem_append_left _ (List.mem_append_left _ (List.mem_append_left _ (List.mem_append_right _ (List.mem_append_left _ (List.mem_of_getElem? (i := 5) rfl))))))), List.forall_mem_cons.mpr ⟨List.mem_cons_of_mem _ (List.mem_append_left _ (List.mem_append_left _ (List.mem_append_left _ (List.mem_append_left _ (List.mem_append_right _ (List.mem_append_left _ (List.mem_of_getElem? (i := 6) rfl))))))), List.forall_mem_cons.mpr ⟨List.mem_cons_of_mem _ (List.mem_append_left _ (List.mem_append_left _ (List.mem_append_left _ (List.mem_append_left _ (List.mem_append_right _ (List.mem_append_left _ (List.mem_of_getElem? (i := 7) rfl))))))), List.forall_mem_cons.mpr ⟨List.mem_cons_of_mem _ (List.mem_append_left _ (List.mem_append_left _ (List.mem_append_left _ (List.mem_append_left _ (List.mem_append_left _ (List.mem_of_getElem? (i := 13) rfl)))))), List.forall_mem_cons.mpr ⟨List.mem_cons_of_mem _ (List.mem_append_left _ (List.mem_append_left _ (List.mem_append_left _ (List.mem_append_left _ (List.mem_append_right _ (List.mem_append_left _ (List.mem_of_getElem? (i := 8) rfl))))))), List.forall_mem_cons.mpr ⟨List.mem_cons_of_mem _ (List.mem_append_left _ (List.mem_append_left _ (List.mem_append_left _ (List.mem_append_left _ (List.mem_append_left _ (List.mem_of_getElem? (i := 15) rfl)))))), (fun _ h => absurd h List.not_mem_nil)⟩⟩⟩⟩⟩⟩⟩⟩⟩⟩⟩⟩⟩⟩⟩⟩, (fun _ h => List.mem_cons_of_mem _ (List.mem_append_left _ (List.mem_append_left _ (List.mem_append_left _ (List.mem_append_right _ h)))))⟩, (fun _ h => List.mem_cons_of_mem _ (List.mem_append_left _ (List.mem_append_left _ (List.mem_append_right _ h))))⟩, (fun _ h => List.mem_cons_of_mem _ (List.mem_append_left _ (List.mem_append_right _ h)))⟩⟩⟩) (by decide +kernel)
set_option maxRecDepth 20000 in
theorem gm_X8_isInView_eTG_X5_isSide_eR_69 : GoodIn wm_X8_isInView_eTG (wsV RX8 69 RX5 yX5_isSide wm_X5_isSide_eR) := goodIn_w (List.forall_mem_append.mpr ⟨List.forall_mem_cons.mpr ⟨List.mem_cons_of_mem _ (List.mem_append_left _ (List.mem_append_left _ (List.mem_append_left _ (List.mem_append_left _ (List.mem_append_right _ (List.mem_append_left _ (List.mem_of_getElem? (i := 10) rfl))))))), List.forall_mem_cons.mpr ⟨List.mem_cons_of_mem _ (List.mem_append_left _ (List.mem_append_left _ (List.mem_append_left _ (List.mem_append_left _ (List.mem_append_right _ (List.mem_append_left _ (List.mem_of_getElem? (i := 11) rfl))))))), List.forall_mem_cons.mpr ⟨List.mem_cons_of_mem _ (List.mem_append_left _ (List.mem_append_left _ (List.mem_append_left _ (List.mem_append_left _ (List.mem_append_right _ (List.mem_append_left _ (List.mem_of_getElem? (i := 12) rfl))))))), List.forall_mem_cons.mpr ⟨List.mem_cons_of_mem _ (List.mem_append_left _ (List.mem_append_left _ (List.mem_append_left _ (List.mem_append_left _ (List.mem_append_right _ (List.mem_append_left _ (List.mem_of_getElem? (i := 13) rfl))))))), (fun _ h => absurd h List.not_mem_nil)⟩⟩⟩⟩, List.forall_mem_cons.mpr ⟨List.mem_cons_of_mem _ (List.mem_append_left _ (List.mem_append_left _ (List.mem_append_left _ (List.mem_append_left _ (List.mem_append_right _ (List.mem_append_left _ (List.mem_of_getElem? (i := 14) rfl))))))), List.forall_mem_append.mpr ⟨List.forall_mem_cons.mpr ⟨List.mem_cons_of_mem _ (List.mem_append_left _ (List.mem_append_left _ (List.mem_append_left _ (List.mem_append_left _ (List.mem_append_right _ (List.mem_append_left _ (List.mem_of_getElem? (i := 15) rfl))))))), List.forall_mem_cons.mpr ⟨List.mem_cons_of_mem _ (List.mem_append_left _ (List.mem_append_left _ (List.mem_append_left _ (List.mem_append_left _ (List.mem_append_right _ (List.mem_append_right _ (List.mem_of_getElem? (i := 0) rfl))))))), (fun _ h => absurd h List.not_mem_nil)⟩⟩, (fun _ h => List.mem_cons_of_mem _ (List.mem_append_right _ h))⟩⟩⟩) (by decide +kernel)
set_option maxHeartbeats 4000000 in
set_option maxRecDepth 100000 in
theorem x_X8_isInView_eTG (l : Launch) (D : va_G) (sz : Nat) (sk : Value) (a : Nat → Nat) (t : Nat → ClassId) (i : Nat → Int32) (q : Int64) (c : Nat → Nat → Int32) (d : Nat → Nat → Int64) (w : Int32) (s1 : Int32) (b1 : Int32) (hI : xInv i c) (hw : 0 ≤ w.toInt ∧ w.toInt ≤ 29) (hs1 : s1.toInt = -9 ∨ (0 ≤ s1.toInt ∧ s1.toInt ≤ 29)) (hb1 : 0 ≤ b1.toInt ∧ b1.toInt ≤ 1) : Met l yX8_isInView wm_X8_isInView_eTG ({ frames := 2, cells := 0, slots := 0, locals := 44 }) (va_Pc [.ref (a 151), .int w, .int s1, .int b1] (yA (a 186) D sz (xwT sk a t i q c d) (xtT t))) (va_Qi (fun (r : Int32) (_ : Unit) => ((0 ≤ r.toInt ∧ r.toInt ≤ 1) ∧ (Sm r (Vw (zX (c 106) (c 108) (i 111).toInt) (hF (c 150)) (bT (c 150) 0) (bT (c 150) 5) (sD (c 133) (c 134)) ((1 : Int) ≤ b1.toInt) s1.toInt w.toInt)))) oA (ro sz)) 0 0 (ro sz) := by
  refine Met.ofW (cc := cX8_isInView) (maxL := 6) (ret := (some .boolean)) (by decide +kernel) rfl ?_
  intro p e s m args below meth cd s₁ B hml hv
  obtain ⟨rfl, ⟨hsz, hP, hK⟩, hN, hZ⟩ := hv
  have hx := B.exec
  have hb := B.bytes
  have hr := B.returns
  have hts := atoms_spec (ws := wm_X8_isInView_eTG) B.pre
  have hown : s.vm.findClass RX8 = some m.cls := findClass_of_methodNamed B.named
  have hlocks := B.notSynchronized
  subst hsz
  have hA : ∀ q : Nat, s.heap.size ≤ q → ro s.heap.size q := fun _ h => h
  have hS : va_S (ro s.heap.size) s.heap s.heap [] := va_S.rf
  have hl := lv_entry ([.ref (a 151), .int w, .int s1, .int b1]) (n := 6) (Nat.le_of_ble_eq_true rfl)
  rw [lg_entry_eq]
  generalize (lg_sl ([.ref (a 151), .int w, .int s1, .int b1]) ++ List.replicate (6 - (lg_sl ([.ref (a 151), .int w, .int s1, .int b1])).length) Slot.unset).toArray = ls at hl ⊢
  have hl : lv_has ls 6 [(0, .ref (a 151)), (1, .int w), (2, .int s1), (3, .int b1)] := hl
  have rb111_i : 0 ≤ (i 111).toInt ∧ (i 111).toInt ≤ 30 := hI.1 111
  refine lv_iload_n hx hb dX8_isInView_0 rfl (lv_at hl 1 rfl) ?_
  refine lv_iload_n hx hb dX8_isInView_1 rfl (lv_at hl 2 rfl) ?_
  refine lv_icmp_ne (tgt := 23) hx hb dX8_isInView_2 (by decide +kernel) (fun c1 => ?_) (fun c1 => ?_)
  · have f1 := mt (ti_eq (a := w.toInt) (b := s1.toInt) rfl rfl).mpr c1
    refine lv_aload_n hx hb dX8_isInView_23 rfl (lv_at hl 0 rfl) ?_
    refine xgT_TG_world hx hb hts (fun _ h => List.mem_cons_of_mem _ (List.mem_append_left _ (List.mem_append_left _ (List.mem_append_left _ (List.mem_append_right _ h))))) hown hK hP (hts (.fieldLink RX8 18 "TalePlay$Sight" "world" "LTalePlay$World;") (List.mem_cons_of_mem _ (List.mem_append_left _ (List.mem_append_left _ (List.mem_append_left _ (List.mem_append_left _ (List.mem_append_left _ (List.mem_of_getElem? (i := 0) rfl)))))))) dX8_isInView_24 ?_
    refine lv_iload_n hx hb dX8_isInView_27 rfl (lv_at hl 1 rfl) ?_
    refine ro_calli (va_runV (As := [.int w]) (rest := []) ⟨hx, hb, hml, hown, hts⟩ (x_X10_sortOf_e l D s.heap.size .null a t i q c d w hI ) (cwV 1 hts gm_X8_isInView_eTG_X10_sortOf_e_34 rfl rfl rfl (by decide +kernel) ⟨Nat.le_of_ble_eq_true rfl, Nat.le_of_ble_eq_true rfl⟩) (yA_V hN (xZ_k hZ hS hA) (xkT_W hK) (xuT_W (sk := sk) hP) (ci := 10) (q0 := 0) rfl rfl) rfl rfl hl.1 rfl (lv_room (Nat.le_of_ble_eq_true rfl)) dX8_isInView_28 ⟨Nat.le_of_ble_eq_true rfl, Nat.le_of_ble_eq_true rfl⟩) hS hA hP (fun r2 u2 H locs hw2 hP hS => ?_)
    have hw2 : (((r2.toInt = -9 ∧ ¬ (0 ≤ w.toInt ∧ w.toInt < (i 111).toInt)) ∨ (0 ≤ r2.toInt ∧ r2.toInt ≤ 5 ∧ 0 ≤ w.toInt ∧ w.toInt < (i 111).toInt)) ∧ (SO (c 106) (c 108) (i 111).toInt w.toInt r2.toInt)) := hw2
    obtain ⟨hw2, hr2_0⟩ := hw2
    have hr2_0 : SO (c 106) (c 108) (i 111).toInt w.toInt r2.toInt := hr2_0
    have hzw : r2.toInt = (zX (c 106) (c 108) (i 111).toInt) w.toInt := SO_z hr2_0
    refine lv_iconst (v := 2) hx hb dX8_isInView_31 (by decide +kernel) ?_
    refine lv_icmp_ne (tgt := 45) hx hb dX8_isInView_32 (by decide +kernel) (fun c3 => ?_) (fun c3 => ?_)
    · have f3 := mt (ti_eq (a := r2.toInt) (b := 2) rfl (by decide +kernel)).mpr c3
      refine lv_aload_n hx hb dX8_isInView_45 rfl (lv_at hl 0 rfl) ?_
      refine xgT_TG_scene hx hb hts (fun _ h => List.mem_cons_of_mem _ (List.mem_append_left _ (List.mem_append_left _ (List.mem_append_left _ (List.mem_append_right _ h))))) hown hK hP (hts (.fieldLink RX8 26 "TalePlay$Sight" "scene" "LTalePlay$Scene;") (List.mem_cons_of_mem _ (List.mem_append_left _ (List.mem_append_left _ (List.mem_append_left _ (List.mem_append_left _ (List.mem_append_left _ (List.mem_of_getElem? (i := 9) rfl)))))))) dX8_isInView_46 ?_
      refine lv_iload_n hx hb dX8_isInView_49 rfl (lv_at hl 1 rfl) ?_
      refine ro_calli (va_runV (As := [.int w]) (rest := []) ⟨hx, hb, hml, hown, hts⟩ (x_X6_holderOf_TS l D H.size .null a t i q c d w hI (show 0 ≤ w.toInt ∧ w.toInt ≤ 29 from by omega)) (cwV 1 hts gm_X8_isInView_eTG_X6_holderOf_TS_62 rfl rfl rfl (by decide +kernel) ⟨Nat.le_of_ble_eq_true rfl, Nat.le_of_ble_eq_true rfl⟩) (yA_V hN (xZ_k hZ hS hA) (xkT_P1 hK) (xuT_P1 (sk := sk) hP) (ci := 6) (q0 := 0) rfl rfl) rfl rfl hl.1 rfl (lv_room (Nat.le_of_ble_eq_true rfl)) dX8_isInView_50 ⟨Nat.le_of_ble_eq_true rfl, Nat.le_of_ble_eq_true rfl⟩) hS hA hP (fun r4 u4 H locs hw4 hP hS => ?_)
      have hw4 : ((r4.toInt = -9 ∧ (c 150 w.toNatClampNeg).toInt % 256 = 255) ∨ (0 ≤ r4.toInt ∧ r4.toInt ≤ 29 ∧ ¬ (c 150 w.toNatClampNeg).toInt % 256 = 255 ∧ r4.toInt = (c 150 w.toNatClampNeg).toInt / 8 % 32)) := hw4
      have hh0 : (hF (c 150)) w.toInt = r4.toInt := hF_at (by omega) hw4
      refine lv_istore (lv' := [(4, .int r4), (0, .ref (a 151)), (1, .int w), (2, .int s1), (3, .int b1)]) hx hb dX8_isInView_53 hl (by decide +kernel) rfl (fun ls hl => ?_)
      refine lv_iconst (v := 0) hx hb dX8_isInView_55 (by decide +kernel) ?_
      refine lv_istore (lv' := [(5, .int 0), (4, .int r4), (0, .ref (a 151)), (1, .int w), (2, .int s1), (3, .int b1)]) hx hb dX8_isInView_56 hl (by decide +kernel) rfl (fun ls hl => ?_)
      have lp5 : ∀ (fu : Nat) (y5_5 : Int32) (y5_4 : Int32), (0 ≤ y5_5.toInt ∧ y5_5.toInt ≤ 30) → (y5_4.toInt = -9 ∨ (0 ≤ y5_4.toInt ∧ y5_4.toInt ≤ 29)) → (InB 30 (hF (c 150)) (Cv (zX (c 106) (c 108) (i 111).toInt) (bT (c 150) 0) (bT (c 150) 5) ((1 : Int) ≤ b1.toInt)) s1.toInt ((hF (c 150)) w.toInt) ↔ InB (30 - y5_5.toInt.toNat) (hF (c 150)) (Cv (zX (c 106) (c 108) (i 111).toInt) (bT (c 150) 0) (bT (c 150) 5) ((1 : Int) ≤ b1.toInt)) s1.toInt y5_4.toInt) → (30 - y5_5.toInt).toNat < fu → ∀ (H : Heap) (locs : List Loc) (ls : Array Slot), va_P D vwCl (xwT sk a t i q c d) H → va_S (ro s.heap.size) s.heap H locs → lv_has ls 6 [(5, .int y5_5), (4, .int y5_4), (0, .ref (a 151)), (1, .int w), (2, .int s1), (3, .int b1)] → W p l e (headSpec wm_X8_isInView_eTG ({ frames := 2, cells := 0, slots := 0, locals := 44 })).room s m ([.ref (a 151), .int w, .int s1, .int b1] : List Value).toArray below meth cd H locs 0 0 (MQ below (va_Qi (fun (r : Int32) (_ : Unit) => ((0 ≤ r.toInt ∧ r.toInt ≤ 1) ∧ (Sm r (Vw (zX (c 106) (c 108) (i 111).toInt) (hF (c 150)) (bT (c 150) 0) (bT (c 150) 5) (sD (c 133) (c 134)) ((1 : Int) ≤ b1.toInt) s1.toInt w.toInt)))) oA (ro s.heap.size)) ([.ref (a 151), .int w, .int s1, .int b1] : List Value).toArray s 0 0 (ro s.heap.size)) (F0 m 58 ls []) := by
        intro fu
        induction fu with
        | zero => intro y5_5 y5_4 hy5_5 hy5_4 hz5_0 hm; exact absurd hm (Nat.not_lt_zero _)
        | succ fu ih =>
          intro y5_5 y5_4 hy5_5 hy5_4 hz5_0 hm H locs ls hP hS hl
          have ih5 := ih
          refine lv_iload hx hb dX8_isInView_58 (lv_at hl 0 rfl) ?_
          refine lv_bipush (v := 30) hx hb dX8_isInView_60 (by decide +kernel) ?_
          refine lv_icmp_ge (tgt := 109) hx hb dX8_isInView_62 (by decide +kernel) (fun c6 => ?_) (fun c6 => ?_)
          · have f6 := (ti_le (a := 30) (b := y5_5.toInt) (by decide +kernel) rfl).mp c6
            refine lv_iconst (v := 0) hx hb dX8_isInView_109 (by decide +kernel) ?_
            exact ro_zret hx hb hr hlocks hS rfl dX8_isInView_110 ⟨(show 0 ≤ (0 : Int32).toInt ∧ (0 : Int32).toInt ≤ 1 from by decide +kernel), (show Sm (0 : Int32) (Vw (zX (c 106) (c 108) (i 111).toInt) (hF (c 150)) (bT (c 150) 0) (bT (c 150) 5) (sD (c 133) (c 134)) ((1 : Int) ≤ b1.toInt) s1.toInt w.toInt) from sm_0 (fun h9 => by rcases h9.2 with h8 | h8 | h8; (· have h7 := h8.1; omega); (· have h7 := h8.2.1; omega); (· exact InB_x hz5_0 (by first | exact Or.inl (by omega) | exact Or.inr (Or.inl (by omega))) hF_9 h9.1 h8.2.2)))⟩
          · have f6 := mt (ti_le (a := 30) (b := y5_5.toInt) (by decide +kernel) rfl).mpr c6
            refine lv_iload hx hb dX8_isInView_65 (lv_at hl 1 rfl) ?_
            refine lv_bipush (v := (-9)) hx hb dX8_isInView_67 (by decide +kernel) ?_
            refine lv_icmp_eq (tgt := 109) hx hb dX8_isInView_69 (by decide +kernel) (fun c7 => ?_) (fun c7 => ?_)
            · have f7 := (ti_eq (a := y5_4.toInt) (b := (-9)) rfl (by decide +kernel)).mp c7
              refine lv_iconst (v := 0) hx hb dX8_isInView_109 (by decide +kernel) ?_
              exact ro_zret hx hb hr hlocks hS rfl dX8_isInView_110 ⟨(show 0 ≤ (0 : Int32).toInt ∧ (0 : Int32).toInt ≤ 1 from by decide +kernel), (show Sm (0 : Int32) (Vw (zX (c 106) (c 108) (i 111).toInt) (hF (c 150)) (bT (c 150) 0) (bT (c 150) 5) (sD (c 133) (c 134)) ((1 : Int) ≤ b1.toInt) s1.toInt w.toInt) from sm_0 (fun h9 => by rcases h9.2 with h8 | h8 | h8; (· have h7 := h8.1; omega); (· have h7 := h8.2.1; omega); (· exact InB_x hz5_0 (by first | exact Or.inl (by omega) | exact Or.inr (Or.inl (by omega))) hF_9 h9.1 h8.2.2)))⟩
            · have f7 := mt (ti_eq (a := y5_4.toInt) (b := (-9)) rfl (by decide +kernel)).mpr c7
              refine lv_iload hx hb dX8_isInView_72 (lv_at hl 1 rfl) ?_
              refine lv_iload_n hx hb dX8_isInView_74 rfl (lv_at hl 4 rfl) ?_
              refine lv_icmp_ne (tgt := 80) hx hb dX8_isInView_75 (by decide +kernel) (fun c8 => ?_) (fun c8 => ?_)
              · have f8 := mt (ti_eq (a := y5_4.toInt) (b := s1.toInt) rfl rfl).mpr c8
                refine lv_aload_n hx hb dX8_isInView_80 rfl (lv_at hl 2 rfl) ?_
                refine lv_iload hx hb dX8_isInView_81 (lv_at hl 1 rfl) ?_
                refine lv_iload_n hx hb dX8_isInView_83 rfl (lv_at hl 5 rfl) ?_
                refine ro_calli (va_runV (As := [.int y5_4, .int b1]) (rest := []) ⟨hx, hb, hml, hown, hts⟩ (x_X8_isCover_eTG l D H.size sk a t i q c d y5_4 b1 hI (show 0 ≤ b1.toInt ∧ b1.toInt ≤ 1 from by omega)) (cwV 2 hts gm_X8_isInView_eTG_X8_isCover_eTG_65 rfl rfl rfl (by decide +kernel) ⟨Nat.le_of_ble_eq_true rfl, Nat.le_of_ble_eq_true rfl⟩) (yA_V hN (xZ_k hZ hS hA) hK hP (ci := 8) (q0 := 39) rfl rfl) rfl rfl hl.1 rfl (lv_room (Nat.le_of_ble_eq_true rfl)) dX8_isInView_84 ⟨Nat.le_of_ble_eq_true rfl, Nat.le_of_ble_eq_true rfl⟩) hS hA hP (fun r9 u9 H locs hw9 hP hS => ?_)
                have hw9 : ((0 ≤ r9.toInt ∧ r9.toInt ≤ 1) ∧ (Sm r9 (Cv (zX (c 106) (c 108) (i 111).toInt) (bT (c 150) 0) (bT (c 150) 5) ((1 : Int) ≤ b1.toInt) y5_4.toInt))) := hw9
                obtain ⟨hw9, hr9_0⟩ := hw9
                have hr9_0 : Sm r9 (Cv (zX (c 106) (c 108) (i 111).toInt) (bT (c 150) 0) (bT (c 150) 5) ((1 : Int) ≤ b1.toInt) y5_4.toInt) := hr9_0
                refine lv_if_eq (tgt := 92) hx hb dX8_isInView_87 (by decide +kernel) (fun c10 => ?_) (fun c10 => ?_)
                · have f10 := (ti_eq (a := r9.toInt) (b := 0) rfl (by decide +kernel)).mp c10
                  have s10 := sm_f hr9_0 c10
                  refine lv_aload_n hx hb dX8_isInView_92 rfl (lv_at hl 2 rfl) ?_
                  refine xgT_TG_scene hx hb hts (fun _ h => List.mem_cons_of_mem _ (List.mem_append_left _ (List.mem_append_left _ (List.mem_append_left _ (List.mem_append_right _ h))))) hown hK hP (hts (.fieldLink RX8 26 "TalePlay$Sight" "scene" "LTalePlay$Scene;") (List.mem_cons_of_mem _ (List.mem_append_left _ (List.mem_append_left _ (List.mem_append_left _ (List.mem_append_left _ (List.mem_append_left _ (List.mem_of_getElem? (i := 9) rfl)))))))) dX8_isInView_93 ?_
                  refine lv_iload hx hb dX8_isInView_96 (lv_at hl 1 rfl) ?_
                  refine ro_calli (va_runV (As := [.int y5_4]) (rest := []) ⟨hx, hb, hml, hown, hts⟩ (x_X6_holderOf_TS l D H.size .null a t i q c d y5_4 hI (show 0 ≤ y5_4.toInt ∧ y5_4.toInt ≤ 29 from by omega)) (cwV 1 hts gm_X8_isInView_eTG_X6_holderOf_TS_62 rfl rfl rfl (by decide +kernel) ⟨Nat.le_of_ble_eq_true rfl, Nat.le_of_ble_eq_true rfl⟩) (yA_V hN (xZ_k hZ hS hA) (xkT_P1 hK) (xuT_P1 (sk := sk) hP) (ci := 6) (q0 := 0) rfl rfl) rfl rfl hl.1 rfl (lv_room (Nat.le_of_ble_eq_true rfl)) dX8_isInView_98 ⟨Nat.le_of_ble_eq_true rfl, Nat.le_of_ble_eq_true rfl⟩) hS hA hP (fun r11 u11 H locs hw11 hP hS => ?_)
                  have hw11 : ((r11.toInt = -9 ∧ (c 150 y5_4.toNatClampNeg).toInt % 256 = 255) ∨ (0 ≤ r11.toInt ∧ r11.toInt ≤ 29 ∧ ¬ (c 150 y5_4.toNatClampNeg).toInt % 256 = 255 ∧ r11.toInt = (c 150 y5_4.toNatClampNeg).toInt / 8 % 32)) := hw11
                  have hh1 : (hF (c 150)) y5_4.toInt = r11.toInt := hF_at (by omega) hw11
                  refine lv_istore (lv' := [(4, .int r11), (5, .int y5_5), (0, .ref (a 151)), (1, .int w), (2, .int s1), (3, .int b1)]) hx hb dX8_isInView_101 hl (by decide +kernel) rfl (fun ls hl => ?_)
                  obtain ⟨x12, ex12⟩ : ∃ y : Int32, y = y5_5 + 1 := ⟨_, rfl⟩
                  have tx12 := ti_add (a := y5_5.toInt) (b := 1) ex12 rfl (by decide +kernel) (by omega) (by omega)
                  refine lv_iinc (v := x12) (lv' := [(5, .int x12), (4, .int r11), (0, .ref (a 151)), (1, .int w), (2, .int s1), (3, .int b1)]) hx hb dX8_isInView_103 hl (k := 1) rfl (by rw [ex12]; rfl) (by decide +kernel) rfl (fun ls hl => ?_)
                  refine lv_goto (tgt := 58) hx hb dX8_isInView_106 (by decide +kernel) ?_
                  exact ih5 x12 r11 (show 0 ≤ x12.toInt ∧ x12.toInt ≤ 30 from by have h50 : x12.toInt = (y5_5.toInt + 1) := tx12; omega) (show r11.toInt = -9 ∨ (0 ≤ r11.toInt ∧ r11.toInt ≤ 29) from by have h50 : x12.toInt = (y5_5.toInt + 1) := tx12; omega) (show InB 30 (hF (c 150)) (Cv (zX (c 106) (c 108) (i 111).toInt) (bT (c 150) 0) (bT (c 150) 5) ((1 : Int) ≤ b1.toInt)) s1.toInt ((hF (c 150)) w.toInt) ↔ InB (30 - x12.toInt.toNat) (hF (c 150)) (Cv (zX (c 106) (c 108) (i 111).toInt) (bT (c 150) 0) (bT (c 150) 5) ((1 : Int) ≤ b1.toInt)) s1.toInt r11.toInt from InB_s hz5_0 (by omega) tx12 (by omega) s10 hh1) (by have h50 : x12.toInt = (y5_5.toInt + 1) := tx12; omega) _ _ _ hP hS (lv_sub hl [0, 1, 2, 3, 4, 5] rfl)
                · have f10 := mt (ti_eq (a := r9.toInt) (b := 0) rfl (by decide +kernel)).mpr c10
                  have s10 := sm_t hr9_0 c10
                  refine lv_iconst (v := 0) hx hb dX8_isInView_90 (by decide +kernel) ?_
                  exact ro_zret hx hb hr hlocks hS rfl dX8_isInView_91 ⟨(show 0 ≤ (0 : Int32).toInt ∧ (0 : Int32).toInt ≤ 1 from by decide +kernel), (show Sm (0 : Int32) (Vw (zX (c 106) (c 108) (i 111).toInt) (hF (c 150)) (bT (c 150) 0) (bT (c 150) 5) (sD (c 133) (c 134)) ((1 : Int) ≤ b1.toInt) s1.toInt w.toInt) from sm_0 (fun h9 => by rcases h9.2 with h8 | h8 | h8; (· have h7 := h8.1; omega); (· have h7 := h8.2.1; omega); (· exact InB_x hz5_0 (Or.inr (Or.inr ⟨by omega, s10⟩)) hF_9 h9.1 h8.2.2)))⟩
              · have f8 := (ti_eq (a := y5_4.toInt) (b := s1.toInt) rfl rfl).mp c8
                refine lv_iconst (v := 1) hx hb dX8_isInView_78 (by decide +kernel) ?_
                exact ro_zret hx hb hr hlocks hS rfl dX8_isInView_79 ⟨(show 0 ≤ (1 : Int32).toInt ∧ (1 : Int32).toInt ≤ 1 from by decide +kernel), (show Sm (1 : Int32) (Vw (zX (c 106) (c 108) (i 111).toInt) (hF (c 150)) (bT (c 150) 0) (bT (c 150) 5) (sD (c 133) (c 134)) ((1 : Int) ≤ b1.toInt) s1.toInt w.toInt) from sm_1 ⟨by omega, Or.inr (Or.inr ⟨by omega, by omega, InB_y hz5_0 (by omega) (by omega)⟩)⟩)⟩
      exact lp5 _ (0 : Int32) r4 (show 0 ≤ (0 : Int32).toInt ∧ (0 : Int32).toInt ≤ 30 from by decide +kernel) (show r4.toInt = -9 ∨ (0 ≤ r4.toInt ∧ r4.toInt ≤ 29) from by have h50 : (0 : Int32).toInt = 0 := (by decide +kernel); omega) (show InB 30 (hF (c 150)) (Cv (zX (c 106) (c 108) (i 111).toInt) (bT (c 150) 0) (bT (c 150) 5) ((1 : Int) ≤ b1.toInt)) s1.toInt ((hF (c 150)) w.toInt) ↔ InB (30 - (0 : Int32).toInt.toNat) (hF (c 150)) (Cv (zX (c 106) (c 108) (i 111).toInt) (bT (c 150) 0) (bT (c 150) 5) ((1 : Int) ≤ b1.toInt)) s1.toInt r4.toInt from InB_e (by decide +kernel) hh0) (Nat.lt_succ_self _) _ _ _ hP hS (lv_sub hl [0, 1, 2, 3, 4, 5] rfl)
    · have f3 := (ti_eq (a := r2.toInt) (b := 2) rfl (by decide +kernel)).mp c3
      refine lv_aload_n hx hb dX8_isInView_35 rfl (lv_at hl 0 rfl) ?_
      refine xgT_TG_roads hx hb hts (fun _ h => List.mem_cons_of_mem _ (List.mem_append_left _ (List.mem_append_left _ (List.mem_append_left _ (List.mem_append_right _ h))))) hown hK hP (hts (.fieldLink RX8 22 "TalePlay$Sight" "roads" "LTalePlay$Roads;") (List.mem_cons_of_mem _ (List.mem_append_left _ (List.mem_append_left _ (List.mem_append_left _ (List.mem_append_left _ (List.mem_append_right _ (List.mem_append_left _ (List.mem_of_getElem? (i := 9) rfl))))))))) dX8_isInView_36 ?_
      refine lv_iload_n hx hb dX8_isInView_39 rfl (lv_at hl 2 rfl) ?_
      refine lv_iload_n hx hb dX8_isInView_40 rfl (lv_at hl 1 rfl) ?_
      refine ro_calli (va_runV (As := [.int s1, .int w]) (rest := []) ⟨hx, hb, hml, hown, hts⟩ (x_X5_isSide_eR l D H.size .null a t i q c d s1 w hI (show 0 ≤ w.toInt ∧ w.toInt ≤ 29 from by omega)) (cwV 2 hts gm_X8_isInView_eTG_X5_isSide_eR_69 rfl rfl rfl (by decide +kernel) ⟨Nat.le_of_ble_eq_true rfl, Nat.le_of_ble_eq_true rfl⟩) (yA_V hN (xZ_k hZ hS hA) (xkT_B hK) (xuT_B (sk := sk) hP) (ci := 5) (q0 := 19) rfl rfl) rfl rfl hl.1 rfl (lv_room (Nat.le_of_ble_eq_true rfl)) dX8_isInView_41 ⟨Nat.le_of_ble_eq_true rfl, Nat.le_of_ble_eq_true rfl⟩) hS hA hP (fun r13 u13 H locs hw13 hP hS => ?_)
      have hw13 : ((0 ≤ r13.toInt ∧ r13.toInt ≤ 1) ∧ (Sm r13 (¬ s1.toInt = -9 ∧ ((c 133 w.toInt.toNat).toInt = s1.toInt ∨ (c 134 w.toInt.toNat).toInt = s1.toInt)))) := hw13
      obtain ⟨hw13, hr13_0⟩ := hw13
      have hr13_0 : Sm r13 (¬ s1.toInt = -9 ∧ ((c 133 w.toInt.toNat).toInt = s1.toInt ∨ (c 134 w.toInt.toNat).toInt = s1.toInt)) := hr13_0
      exact ro_zret hx hb hr hlocks hS (nb_n (show 0 ≤ r13.toInt ∧ r13.toInt ≤ 1 from by omega)) dX8_isInView_44 ⟨(show 0 ≤ r13.toInt ∧ r13.toInt ≤ 1 from by omega), (show Sm r13 (Vw (zX (c 106) (c 108) (i 111).toInt) (hF (c 150)) (bT (c 150) 0) (bT (c 150) 5) (sD (c 133) (c 134)) ((1 : Int) ≤ b1.toInt) s1.toInt w.toInt) from sm_i hr13_0 ⟨fun h9 => ⟨h9.1, Or.inr (Or.inl ⟨by omega, by omega, h9.2⟩)⟩, fun h9 => ⟨h9.1, by rcases h9.2 with h8 | h8 | h8; (· have h7 := h8.1; exfalso; omega); (· exact h8.2.2); (· have h7 := h8.2.1; exfalso; omega)⟩⟩)⟩
  · have f1 := (ti_eq (a := w.toInt) (b := s1.toInt) rfl rfl).mp c1
    refine lv_aload_n hx hb dX8_isInView_5 rfl (lv_at hl 0 rfl) ?_
    refine xgT_TG_world hx hb hts (fun _ h => List.mem_cons_of_mem _ (List.mem_append_left _ (List.mem_append_left _ (List.mem_append_left _ (List.mem_append_right _ h))))) hown hK hP (hts (.fieldLink RX8 18 "TalePlay$Sight" "world" "LTalePlay$World;") (List.mem_cons_of_mem _ (List.mem_append_left _ (List.mem_append_left _ (List.mem_append_left _ (List.mem_append_left _ (List.mem_append_left _ (List.mem_of_getElem? (i := 0) rfl)))))))) dX8_isInView_6 ?_
    refine lv_iload_n hx hb dX8_isInView_9 rfl (lv_at hl 2 rfl) ?_
    refine ro_calli (va_runV (As := [.int s1]) (rest := []) ⟨hx, hb, hml, hown, hts⟩ (x_X10_sortOf_e l D s.heap.size .null a t i q c d s1 hI ) (cwV 1 hts gm_X8_isInView_eTG_X10_sortOf_e_34 rfl rfl rfl (by decide +kernel) ⟨Nat.le_of_ble_eq_true rfl, Nat.le_of_ble_eq_true rfl⟩) (yA_V hN (xZ_k hZ hS hA) (xkT_W hK) (xuT_W (sk := sk) hP) (ci := 10) (q0 := 0) rfl rfl) rfl rfl hl.1 rfl (lv_room (Nat.le_of_ble_eq_true rfl)) dX8_isInView_10 ⟨Nat.le_of_ble_eq_true rfl, Nat.le_of_ble_eq_true rfl⟩) hS hA hP (fun r14 u14 H locs hw14 hP hS => ?_)
    have hw14 : (((r14.toInt = -9 ∧ ¬ (0 ≤ s1.toInt ∧ s1.toInt < (i 111).toInt)) ∨ (0 ≤ r14.toInt ∧ r14.toInt ≤ 5 ∧ 0 ≤ s1.toInt ∧ s1.toInt < (i 111).toInt)) ∧ (SO (c 106) (c 108) (i 111).toInt s1.toInt r14.toInt)) := hw14
    obtain ⟨hw14, hr14_0⟩ := hw14
    have hr14_0 : SO (c 106) (c 108) (i 111).toInt s1.toInt r14.toInt := hr14_0
    have hzs : r14.toInt = (zX (c 106) (c 108) (i 111).toInt) s1.toInt := SO_z hr14_0
    refine lv_iconst (v := 3) hx hb dX8_isInView_13 (by decide +kernel) ?_
    refine lv_icmp_ne (tgt := 21) hx hb dX8_isInView_14 (by decide +kernel) (fun c15 => ?_) (fun c15 => ?_)
    · have f15 := mt (ti_eq (a := r14.toInt) (b := 3) rfl (by decide +kernel)).mpr c15
      refine lv_iconst (v := 0) hx hb dX8_isInView_21 (by decide +kernel) ?_
      exact ro_zret hx hb hr hlocks hS rfl dX8_isInView_22 ⟨(show 0 ≤ (0 : Int32).toInt ∧ (0 : Int32).toInt ≤ 1 from by decide +kernel), (show Sm (0 : Int32) (Vw (zX (c 106) (c 108) (i 111).toInt) (hF (c 150)) (bT (c 150) 0) (bT (c 150) 5) (sD (c 133) (c 134)) ((1 : Int) ≤ b1.toInt) s1.toInt w.toInt) from sm_0 (fun h9 => by rcases h9.2 with h8 | h8 | h8; (· have h7 := h8.2; omega); (· have h7 := h8.1; omega); (· have h7 := h8.1; omega)))⟩
    · have f15 := (ti_eq (a := r14.toInt) (b := 3) rfl (by decide +kernel)).mp c15
      refine lv_iconst (v := 1) hx hb dX8_isInView_17 (by decide +kernel) ?_
      refine lv_goto (tgt := 22) hx hb dX8_isInView_18 (by decide +kernel) ?_
      exact ro_zret hx hb hr hlocks hS rfl dX8_isInView_22 ⟨(show 0 ≤ (1 : Int32).toInt ∧ (1 : Int32).toInt ≤ 1 from by decide +kernel), (show Sm (1 : Int32) (Vw (zX (c 106) (c 108) (i 111).toInt) (hF (c 150)) (bT (c 150) 0) (bT (c 150) 5) (sD (c 133) (c 134)) ((1 : Int) ≤ b1.toInt) s1.toInt w.toInt) from sm_1 ⟨by omega, Or.inl ⟨by omega, by omega⟩⟩)⟩

def wm_X8_look_eTG : List Cond := .code yX8_look cX8_look 6 none :: ((([.methodLink RX8 30 yX8_shellOf, .instanceMethod yX8_shellOf, .selects RX8 yX8_shellOf yX8_shellOf, .initialized RX8, .code yX8_shellOf cX8_shellOf 5 (some .int), .fieldLink RX8 26 "TalePlay$Sight" "scene" "LTalePlay$Scene;", .methodLink RX8 62 yX6_holderOf, .instanceMethod yX6_holderOf, .selects RX6 yX6_holderOf yX6_holderOf, .initialized RX6, .code yX6_holderOf cX6_holderOf 3 (some .int), .fieldLink RX6 9 "TalePlay$Scene" "cells" "[I", .fieldLink RX8 18 "TalePlay$Sight" "world" "LTalePlay$World;", .methodLink RX8 34 yX10_sortOf, .instanceMethod yX10_sortOf, .selects RX10 yX10_sortOf yX10_sortOf] : List Cond) ++ (([.initialized RX10, .code yX10_sortOf cX10_sortOf 2 (some .int), .fieldLink RX10 37 "TalePlay$World" "objects" "I", .fieldLink RX10 15 "TalePlay$World" "sorts" "[I", .fieldLink RX10 21 "TalePlay$World" "kindOf" "[I", .methodLink RX8 65 yX8_isCover, .instanceMethod yX8_isCover, .selects RX8 yX8_isCover yX8_isCover, .code yX8_isCover cX8_isCover 3 (some .boolean), .methodLink RX8 40 yX6_has, .instanceMethod yX6_has, .selects RX6 yX6_has yX6_has, .code yX6_has cX6_has 3 (some .boolean), .fieldLink RX8 46 "TalePlay$Sight" "bright" "Z", .fieldLink RX8 50 "TalePlay$World" "objects" "I", .methodLink RX8 58 yX6_lies] : List Cond) ++ (([.instanceMethod yX6_lies, .selects RX6 yX6_lies yX6_lies, .code yX6_lies cX6_lies 4 (some .boolean), .fieldLink RX8 9 "TalePlay$Sight" "seen" "[Z", .fieldLink RX8 15 "TalePlay$Sight" "reached" "[Z", .methodLink RX8 54 yX8_isInView, .instanceMethod yX8_isInView, .selects RX8 yX8_isInView yX8_isInView, .code yX8_isInView cX8_isInView 6 (some .boolean), .fieldLink RX8 22 "TalePlay$Sight" "roads" "LTalePlay$Roads;", .methodLink RX8 69 yX5_isSide, .instanceMethod yX5_isSide, .selects RX5 yX5_isSide yX5_isSide, .initialized RX5, .code yX5_isSide cX5_isSide 3 (some .boolean), .fieldLink RX5 24 "TalePlay$Roads" "firstSides" "[I"] : List Cond) ++ ([.fieldLink RX5 27 "TalePlay$Roads" "secondSides" "[I"] : List Cond)))) ++ wsX80 ++ wsX60 ++ wsX100 ++ wsX50)
set_option maxRecDepth 20000 in
theorem gm_X8_look_eTG_X8_shellOf_eTG_30 : GoodIn wm_X8_look_eTG (wsV RX8 30 RX8 yX8_shellOf wm_X8_shellOf_eTG) := goodIn_w (List.forall_mem_append.mpr ⟨List.forall_mem_cons.mpr ⟨List.mem_cons_of_mem _ (List.mem_append_left _ (List.mem_append_left _ (List.mem_append_left _ (List.mem_append_left _ (List.mem_append_left _ (List.mem_of_getElem? (i := 0) rfl)))))), List.forall_mem_cons.mpr ⟨List.mem_cons_of_mem _ (List.mem_append_left _ (List.mem_append_left _ (List.mem_append_left _ (List.mem_append_left _ (List.mem_append_left _ (List.mem_of_getElem? (i := 1) rfl)))))), List.forall_mem_cons.mpr ⟨List.mem_cons_of_mem _ (List.mem_append_left _ (List.mem_append_left _ (List.mem_append_left _ (List.mem_append_left _ (List.mem_append_left _ (List.mem_of_getElem? (i := 2) rfl)))))), List.forall_mem_cons.mpr ⟨List.mem_cons_of_mem _ (List.mem_append_left _ (List.mem_append_left _ (List.mem_append_left _ (List.mem_append_left _ (List.mem_append_left _ (List.mem_of_getElem? (i := 3) rfl)))))), (fun _ h => absurd h List.not_mem_nil)⟩⟩⟩⟩, List.forall_mem_cons.mpr ⟨List.mem_cons_of_mem _ (List.mem_append_left _ (List.mem_append_left _ (List.mem_append_left _ (List.mem_append_left _ (List.mem_append_left _ (List.mem_of_getElem? (i := 4) rfl)))))), List.forall_mem_append.mpr ⟨List.forall_mem_append.mpr ⟨List.forall_mem_append.mpr ⟨List.forall_mem_append.mpr ⟨List.forall_mem_cons.mpr ⟨List.mem_cons_of_mem _ (List.mem_append_left _ (List.mem_append_left _ (List.mem_append_left _ (List.mem_append_left _ (List.mem_append_left _ (List.mem_of_getElem? (i := 5) rfl)))))), List.forall_mem_cons.mpr ⟨List.mem_cons_of_mem _ (List.mem_append_left _ (List.mem_append_left _ (List.mem_append_left _ (List.mem_append_left _ (List.mem_append_left _ (List.mem_of_getElem? (i := 6) rfl)))))), List.forall_mem_cons.mpr ⟨List.mem_cons_of_mem _ (List.mem_append_left _ (List.mem_append_left _ (List.mem_append_left _ (List.mem_append_left _ (List.mem_append_left _ (List.mem_of_getElem? (i := 7) rfl)))))), List.forall_mem_cons.mpr ⟨List.mem_cons_of_mem _ (List.mem_append_left _ (List.mem_append_left _ (List.mem_append_left _ (List.mem_append_left _ (List.mem_append_left _ (List.mem_of_getElem? (i := 8) rfl)))))), List.forall_mem_cons.mpr ⟨List.mem_cons_of_mem _ (List.mem_append_left _ (List.mem_append_left _ (List.mem_append_left _ (List.mem_append_left _ (List.mem_append_left _ (List.mem_of_getElem? (i := 9) rfl)))))), List.forall_mem_cons.mpr ⟨List.mem_cons_of_mem _ (List.mem_append_left _ (List.mem_append_left _ (List.mem_append_left _ (List.mem_append_left _ (List.mem_append_left _ (List.mem_of_getElem? (i := 10) rfl)))))), List.forall_mem_cons.mpr ⟨List.mem_cons_of_mem _ (List.mem_append_left _ (List.mem_append_left _ (List.mem_append_left _ (List.mem_append_left _ (List.mem_append_left _ (List.mem_of_getElem? (i := 11) rfl)))))), List.forall_mem_cons.mpr ⟨List.mem_cons_of_mem _ (List.mem_append_left _ (List.mem_append_left _ (List.mem_append_left _ (List.mem_append_left _ (List.mem_append_left _ (List.mem_of_getElem? (i := 12) rfl)))))), List.forall_mem_cons.mpr ⟨List.mem_cons_of_mem _ (List.mem_append_left _ (List.mem_append_left _ (List.mem_append_left _ (List.mem_append_left _ (List.mem_append_left _ (List.mem_of_getElem? (i := 13) rfl)))))), List.forall_mem_cons.mpr ⟨List.mem_cons_of_mem _ (List.mem_append_left _ (List.mem_append_left _ (List.mem_append_left _ (List.mem_append_left _ (List.mem_append_left _ (List.mem_of_getElem? (i := 14) rfl)))))), List.forall_mem_cons.mpr ⟨List.mem_cons_of_mem _ (List.mem_append_left _ (List.mem_append_left _ (List.mem_append_left _ (List.mem_append_left _ (List.mem_append_left _ (List.mem_of_getElem? (i := 15) rfl)))))), List.forall_mem_cons.mpr ⟨List.mem_cons_of_mem _ (List.mem_append_left _ (List.mem_append_left _ (List.mem_append_left _ (List.mem_append_left _ (List.mem_append_right _ (List.mem_append_left _ (List.mem_of_getElem? (i := 0) rfl))))))), List.forall_mem_cons.mpr ⟨List.mem_cons_of_mem _ (List.mem_append_left _ (List.mem_append_left _ (List.mem_append_left _ (List.mem_append_left _ (List.mem_append_right _ (List.mem_append_left _ (List.mem_of_getElem? (i := 1) rfl))))))), List.forall_mem_cons.mpr ⟨List.mem_cons_of_mem _ (List.mem_append_left _ (List.mem_append_left _ (List.mem_append_left _ (List.mem_append_left _ (List.mem_append_right _ (List.mem_append_left _ (List.mem_of_getElem? (i := 2) rfl))))))), List.forall_mem_cons.mpr ⟨List.mem_cons_of_mem _ (List.mem_append_left _ (List.mem_append_left _ (List.mem_append_left _ (List.mem_append_left _ (List.mem_append_right _ (List.mem_append_left _ (List.mem_of_getElem? (i := 3) rfl))))))), List.forall_mem_cons.mpr ⟨List.mem_cons_of_mem _ (List.mem_append_left _ (List.mem_append_left _ (List.mem_append_left _ (List.mem_append_left _ (List.mem_append_right _ (List.mem_append_left _ (List.mem_of_getElem? (i := 4) rfl))))))), (fun _ h => absurd h List.not_mem_nil)⟩⟩⟩⟩⟩⟩⟩⟩⟩⟩⟩⟩⟩⟩⟩⟩, List.forall_mem_cons.mpr ⟨List.mem_cons_of_mem _ (List.mem_append_left _ (List.mem_append_left _ (List.mem_append_left _ (List.mem_append_left _ (List.mem_append_right _ (List.mem_append_left _ (List.mem_of_getElem? (i := 5) rfl))))))), List.forall_mem_cons.mpr ⟨List.mem_cons_of_mem _ (List.mem_append_left _ (List.mem_append_left _ (List.mem_append_left _ (List.mem_append_left _ (List.mem_append_right _ (List.mem_append_left _ (List.mem_of_getElem? (i := 6) rfl))))))), List.forall_mem_cons.mpr ⟨List.mem_cons_of_mem _ (List.mem_append_left _ (List.mem_append_left _ (List.mem_append_left _ (List.mem_append_left _ (List.mem_append_right _ (List.mem_append_left _ (List.mem_of_getElem? (i := 7) rfl))))))), List.forall_mem_cons.mpr ⟨List.mem_cons_of_mem _ (List.mem_append_left _ (List.mem_append_left _ (List.mem_append_left _ (List.mem_append_left _ (List.mem_append_left _ (List.mem_of_getElem? (i := 3) rfl)))))), List.forall_mem_cons.mpr ⟨List.mem_cons_of_mem _ (List.mem_append_left _ (List.mem_append_left _ (List.mem_append_left _ (List.mem_append_left _ (List.mem_append_right _ (List.mem_append_left _ (List.mem_of_getElem? (i := 8) rfl))))))), List.forall_mem_cons.mpr ⟨List.mem_cons_of_mem _ (List.mem_append_left _ (List.mem_append_left _ (List.mem_append_left _ (List.mem_append_left _ (List.mem_append_right _ (List.mem_append_left _ (List.mem_of_getElem? (i := 9) rfl))))))), List.forall_mem_cons.mpr ⟨List.mem_cons_of_mem _ (List.mem_append_left _ (List.mem_append_left _ (List.mem_append_left _ (List.mem_append_left _ (List.mem_append_right _ (List.mem_append_left _ (List.mem_of_getElem? (i := 10) rfl))))))), List.forall_mem_cons.mpr ⟨List.mem_cons_of_mem _ (List.mem_append_left _ (List.mem_append_left _ (List.mem_append_left _ (List.mem_append_left _ (List.mem_append_right _ (List.mem_append_left _ (List.mem_of_getElem? (i := 11) rfl))))))), List.forall_mem_cons.mpr ⟨List.mem_cons_of_mem _ (List.mem_append_left _ (List.mem_append_left _ (List.mem_append_left _ (List.mem_append_left _ (List.mem_append_right _ (List.mem_append_left _ (List.mem_of_getElem? (i := 12) rfl))))))), (fun _ h => absurd h List.not_mem_nil)⟩⟩⟩⟩⟩⟩⟩⟩⟩⟩, (fun _ h => List.mem_cons_of_mem _ (List.mem_append_left _ (List.mem_append_left _ (List.mem_append_left _ (List.mem_append_right _ h)))))⟩, (fun _ h => List.mem_cons_of_mem _ (List.mem_append_left _ (List.mem_append_left _ (List.mem_append_right _ h))))⟩, (fun _ h => List.mem_cons_of_mem _ (List.mem_append_left _ (List.mem_append_right _ h)))⟩⟩⟩) (by decide +kernel)
set_option maxRecDepth 20000 in
theorem gm_X8_look_eTG_X10_sortOf_e_34 : GoodIn wm_X8_look_eTG (wsV RX8 34 RX10 yX10_sortOf wm_X10_sortOf_e) := goodIn_w (List.forall_mem_append.mpr ⟨List.forall_mem_cons.mpr ⟨List.mem_cons_of_mem _ (List.mem_append_left _ (List.mem_append_left _ (List.mem_append_left _ (List.mem_append_left _ (List.mem_append_left _ (List.mem_of_getElem? (i := 13) rfl)))))), List.forall_mem_cons.mpr ⟨List.mem_cons_of_mem _ (List.mem_append_left _ (List.mem_append_left _ (List.mem_append_left _ (List.mem_append_left _ (List.mem_append_left _ (List.mem_of_getElem? (i := 14) rfl)))))), List.forall_mem_cons.mpr ⟨List.mem_cons_of_mem _ (List.mem_append_left _ (List.mem_append_left _ (List.mem_append_left _ (List.mem_append_left _ (List.mem_append_left _ (List.mem_of_getElem? (i := 15) rfl)))))), List.forall_mem_cons.mpr ⟨List.mem_cons_of_mem _ (List.mem_append_left _ (List.mem_append_left _ (List.mem_append_left _ (List.mem_append_left _ (List.mem_append_right _ (List.mem_append_left _ (List.mem_of_getElem? (i := 0) rfl))))))), (fun _ h => absurd h List.not_mem_nil)⟩⟩⟩⟩, List.forall_mem_cons.mpr ⟨List.mem_cons_of_mem _ (List.mem_append_left _ (List.mem_append_left _ (List.mem_append_left _ (List.mem_append_left _ (List.mem_append_right _ (List.mem_append_left _ (List.mem_of_getElem? (i := 1) rfl))))))), List.forall_mem_append.mpr ⟨List.forall_mem_cons.mpr ⟨List.mem_cons_of_mem _ (List.mem_append_left _ (List.mem_append_left _ (List.mem_append_left _ (List.mem_append_left _ (List.mem_append_right _ (List.mem_append_left _ (List.mem_of_getElem? (i := 2) rfl))))))), List.forall_mem_cons.mpr ⟨List.mem_cons_of_mem _ (List.mem_append_left _ (List.mem_append_left _ (List.mem_append_left _ (List.mem_append_left _ (List.mem_append_right _ (List.mem_append_left _ (List.mem_of_getElem? (i := 3) rfl))))))), List.forall_mem_cons.mpr ⟨List.mem_cons_of_mem _ (List.mem_append_left _ (List.mem_append_left _ (List.mem_append_left _ (List.mem_append_left _ (List.mem_append_right _ (List.mem_append_left _ (List.mem_of_getElem? (i := 4) rfl))))))), (fun _ h => absurd h List.not_mem_nil)⟩⟩⟩, (fun _ h => List.mem_cons_of_mem _ (List.mem_append_left _ (List.mem_append_right _ h)))⟩⟩⟩) (by decide +kernel)
set_option maxRecDepth 20000 in
theorem gm_X8_look_eTG_X6_lies_eTS_58 : GoodIn wm_X8_look_eTG (wsV RX8 58 RX6 yX6_lies wm_X6_lies_eTS) := goodIn_w (List.forall_mem_append.mpr ⟨List.forall_mem_cons.mpr ⟨List.mem_cons_of_mem _ (List.mem_append_left _ (List.mem_append_left _ (List.mem_append_left _ (List.mem_append_left _ (List.mem_append_right _ (List.mem_append_left _ (List.mem_of_getElem? (i := 15) rfl))))))), List.forall_mem_cons.mpr ⟨List.mem_cons_of_mem _ (List.mem_append_left _ (List.mem_append_left _ (List.mem_append_left _ (List.mem_append_left _ (List.mem_append_right _ (List.mem_append_right _ (List.mem_append_left _ (List.mem_of_getElem? (i := 0) rfl)))))))), List.forall_mem_cons.mpr ⟨List.mem_cons_of_mem _ (List.mem_append_left _ (List.mem_append_left _ (List.mem_append_left _ (List.mem_append_left _ (List.mem_append_right _ (List.mem_append_right _ (List.mem_append_left _ (List.mem_of_getElem? (i := 1) rfl)))))))), List.forall_mem_cons.mpr ⟨List.mem_cons_of_mem _ (List.mem_append_left _ (List.mem_append_left _ (List.mem_append_left _ (List.mem_append_left _ (List.mem_append_left _ (List.mem_of_getElem? (i := 9) rfl)))))), (fun _ h => absurd h List.not_mem_nil)⟩⟩⟩⟩, List.forall_mem_cons.mpr ⟨List.mem_cons_of_mem _ (List.mem_append_left _ (List.mem_append_left _ (List.mem_append_left _ (List.mem_append_left _ (List.mem_append_right _ (List.mem_append_right _ (List.mem_append_left _ (List.mem_of_getElem? (i := 2) rfl)))))))), List.forall_mem_append.mpr ⟨List.forall_mem_cons.mpr ⟨List.mem_cons_of_mem _ (List.mem_append_left _ (List.mem_append_left _ (List.mem_append_left _ (List.mem_append_left _ (List.mem_append_left _ (List.mem_of_getElem? (i := 11) rfl)))))), (fun _ h => absurd h List.not_mem_nil)⟩, (fun _ h => List.mem_cons_of_mem _ (List.mem_append_left _ (List.mem_append_left _ (List.mem_append_right _ h))))⟩⟩⟩) (by decide +kernel)
set_option maxRecDepth 20000 in
theorem gm_X8_look_eTG_X8_isInView_eTG_54 : GoodIn wm_X8_look_eTG (wsV RX8 54 RX8 yX8_isInView wm_X8_isInView_eTG) := goodIn_w (List.forall_mem_append.mpr ⟨List.forall_mem_cons.mpr ⟨List.mem_cons_of_mem _ (List.mem_append_left _ (List.mem_append_left _ (List.mem_append_left _ (List.mem_append_left _ (List.mem_append_right _ (List.mem_append_right _ (List.mem_append_left _ (List.mem_of_getElem? (i := 5) rfl)))))))), List.forall_mem_cons.mpr ⟨List.mem_cons_of_mem _ (List.mem_append_left _ (List.mem_append_left _ (List.mem_append_left _ (List.mem_append_left _ (List.mem_append_right _ (List.mem_append_right _ (List.mem_append_left _ (List.mem_of_getElem? (i := 6) rfl)))))))), List.forall_mem_cons.mpr ⟨List.mem_cons_of_mem _ (List.mem_append_left _ (List.mem_append_left _ (List.mem_append_left _ (List.mem_append_left _ (List.mem_append_right _ (List.mem_append_right _ (List.mem_append_left _ (List.mem_of_getElem? (i := 7) rfl)))))))), List.forall_mem_cons.mpr ⟨List.mem_cons_of_mem _ (List.mem_append_left _ (List.mem_append_left _ (List.mem_append_left _ (List.mem_append_left _ (List.mem_append_left _ (List.mem_of_getElem? (i := 3) rfl)))))), (fun _ h => absurd h List.not_mem_nil)⟩⟩⟩⟩, List.forall_mem_cons.mpr ⟨List.mem_cons_of_mem _ (List.mem_append_left _ (List.mem_append_left _ (List.mem_append_left _ (List.mem_append_left _ (List.mem_append_right _ (List.mem_append_right _ (List.mem_append_left _ (List.mem_of_getElem? (i := 8) rfl)))))))), List.forall_mem_append.mpr ⟨List.forall_mem_append.mpr ⟨List.forall_mem_append.mpr ⟨List.forall_mem_append.mpr ⟨List.forall_mem_append.mpr ⟨List.forall_mem_cons.mpr ⟨List.mem_cons_of_mem _ (List.mem_append_left _ (List.mem_append_left _ (List.mem_append_left _ (List.mem_append_left _ (List.mem_append_left _ (List.mem_of_getElem? (i := 12) rfl)))))), List.forall_mem_cons.mpr ⟨List.mem_cons_of_mem _ (List.mem_append_left _ (List.mem_append_left _ (List.mem_append_left _ (List.mem_append_left _ (List.mem_append_left _ (List.mem_of_getElem? (i := 13) rfl)))))), List.forall_mem_cons.mpr ⟨List.mem_cons_of_mem _ (List.mem_append_left _ (List.mem_append_left _ (List.mem_append_left _ (List.mem_append_left _ (List.mem_append_left _ (List.mem_of_getElem? (i := 14) rfl)))))), List.forall_mem_cons.mpr ⟨List.mem_cons_of_mem _ (List.mem_append_left _ (List.mem_append_left _ (List.mem_append_left _ (List.mem_append_left _ (List.mem_append_left _ (List.mem_of_getElem? (i := 15) rfl)))))), List.forall_mem_cons.mpr ⟨List.mem_cons_of_mem _ (List.mem_append_left _ (List.mem_append_left _ (List.mem_append_left _ (List.mem_append_left _ (List.mem_append_right _ (List.mem_append_left _ (List.mem_of_getElem? (i := 0) rfl))))))), List.forall_mem_cons.mpr ⟨List.mem_cons_of_mem _ (List.mem_append_left _ (List.mem_append_left _ (List.mem_append_left _ (List.mem_append_left _ (List.mem_append_right _ (List.mem_append_left _ (List.mem_of_getElem? (i := 1) rfl))))))), List.forall_mem_cons.mpr ⟨List.mem_cons_of_mem _ (List.mem_append_left _ (List.mem_append_left _ (List.mem_append_left _ (List.mem_append_left _ (List.mem_append_right _ (List.mem_append_left _ (List.mem_of_getElem? (i := 2) rfl))))))), List.forall_mem_cons.mpr ⟨List.mem_cons_of_mem _ (List.mem_append_left _ (List.mem_append_left _ (List.mem_append_left _ (List.mem_append_left _ (List.mem_append_right _ (List.mem_append_left _ (List.mem_of_getElem? (i := 3) rfl))))))), List.forall_mem_cons.mpr ⟨List.mem_cons_of_mem _ (List.mem_append_left _ (List.mem_append_left _ (List.mem_append_left _ (List.mem_append_left _ (List.mem_append_right _ (List.mem_append_left _ (List.mem_of_getElem? (i := 4) rfl))))))), List.forall_mem_cons.mpr ⟨List.mem_cons_of_mem _ (List.mem_append_left _ (List.mem_append_left _ (List.mem_append_left _ (List.mem_append_left _ (List.mem_append_left _ (List.mem_of_getElem? (i := 5) rfl)))))), List.forall_mem_cons.mpr ⟨List.mem_cons_of_mem _ (List.mem_append_left _ (List.mem_append_left _ (List.mem_append_left _ (List.mem_append_left _ (List.mem_append_left _ (List.mem_of_getElem? (i := 6) rfl)))))), List.forall_mem_cons.mpr ⟨List.mem_cons_of_mem _ (List.mem_append_left _ (List.mem_append_left _ (List.mem_append_left _ (List.mem_append_left _ (List.mem_append_left _ (List.mem_of_getElem? (i := 7) rfl)))))), List.forall_mem_cons.mpr ⟨List.mem_cons_of_mem _ (List.mem_append_left _ (List.mem_append_left _ (List.mem_append_left _ (List.mem_append_left _ (List.mem_append_left _ (List.mem_of_getElem? (i := 8) rfl)))))), List.forall_mem_cons.mpr ⟨List.mem_cons_of_mem _ (List.mem_append_left _ (List.mem_append_left _ (List.mem_append_left _ (List.mem_append_left _ (List.mem_append_left _ (List.mem_of_getElem? (i := 9) rfl)))))), List.forall_mem_cons.mpr ⟨List.mem_cons_of_mem _ (List.mem_append_left _ (List.mem_append_left _ (List.mem_append_left _ (List.mem_append_left _ (List.mem_append_left _ (List.mem_of_getElem? (i := 10) rfl)))))), List.forall_mem_cons.mpr ⟨List.mem_cons_of_mem _ (List.mem_append_left _ (List.mem_append_left _ (List.mem_append_left _ (List.mem_append_left _ (List.mem_append_left _ (List.mem_of_getElem? (i := 11) rfl)))))), (fun _ h => absurd h List.not_mem_nil)⟩⟩⟩⟩⟩⟩⟩⟩⟩⟩⟩⟩⟩⟩⟩⟩, List.forall_mem_append.mpr ⟨List.forall_mem_cons.mpr ⟨List.mem_cons_of_mem _ (List.mem_append_left _ (List.mem_append_left _ (List.mem_append_left _ (List.mem_append_left _ (List.mem_append_right _ (List.mem_append_left _ (List.mem_of_getElem? (i := 5) rfl))))))), List.forall_mem_cons.mpr ⟨List.mem_cons_of_mem _ (List.mem_append_left _ (List.mem_append_left _ (List.mem_append_left _ (List.mem_append_left _ (List.mem_append_right _ (List.mem_append_left _ (List.mem_of_getElem? (i := 6) rfl))))))), List.forall_mem_cons.mpr ⟨List.mem_cons_of_mem _ (List.mem_append_left _ (List.mem_append_left _ (List.mem_append_left _ (List.mem_append_left _ (List.mem_append_right _ (List.mem_append_left _ (List.mem_of_getElem? (i := 7) rfl))))))), List.forall_mem_cons.mpr ⟨List.mem_cons_of_mem _ (List.mem_append_left _ (List.mem_append_left _ (List.mem_append_left _ (List.mem_append_left _ (List.mem_append_left _ (List.mem_of_getElem? (i := 3) rfl)))))), List.forall_mem_cons.mpr ⟨List.mem_cons_of_mem _ (List.mem_append_left _ (List.mem_append_left _ (List.mem_append_left _ (List.mem_append_left _ (List.mem_append_right _ (List.mem_append_left _ (List.mem_of_getElem? (i := 8) rfl))))))), List.forall_mem_cons.mpr ⟨List.mem_cons_of_mem _ (List.mem_append_left _ (List.mem_append_left _ (List.mem_append_left _ (List.mem_append_left _ (List.mem_append_right _ (List.mem_append_left _ (List.mem_of_getElem? (i := 9) rfl))))))), List.forall_mem_cons.mpr ⟨List.mem_cons_of_mem _ (List.mem_append_left _ (List.mem_append_left _ (List.mem_append_left _ (List.mem_append_left _ (List.mem_append_right _ (List.mem_append_left _ (List.mem_of_getElem? (i := 10) rfl))))))), List.forall_mem_cons.mpr ⟨List.mem_cons_of_mem _ (List.mem_append_left _ (List.mem_append_left _ (List.mem_append_left _ (List.mem_append_left _ (List.mem_append_right _ (List.mem_append_left _ (List.mem_of_getElem? (i := 11) rfl))))))), List.forall_mem_cons.mpr ⟨List.mem_cons_of_mem _ (List.mem_append_left _ (List.mem_append_left _ (List.mem_append_left _ (List.mem_append_left _ (List.mem_append_right _ (List.mem_append_left _ (List.mem_of_getElem? (i := 12) rfl))))))), List.forall_mem_cons.mpr ⟨List.mem_cons_of_mem _ (List.mem_append_left _ (List.mem_append_left _ (List.mem_append_left _ (List.mem_append_left _ (List.mem_append_right _ (List.mem_append_right _ (List.mem_append_left _ (List.mem_of_getElem? (i := 9) rfl)))))))), List.forall_mem_cons.mpr ⟨List.mem_cons_of_mem _ (List.mem_append_left _ (List.mem_append_left _ (List.mem_append_left _ (List.mem_append_left _ (List.mem_append_right _ (List.mem_append_right _ (List.mem_append_left _ (List.mem_of_getElem? (i := 10) rfl)))))))), List.forall_mem_cons.mpr ⟨List.mem_cons_of_mem _ (List.mem_append_left _ (List.mem_append_left _ (List.mem_append_left _ (List.mem_append_left _ (List.mem_append_right _ (List.mem_append_right _ (List.mem_append_left _ (List.mem_of_getElem? (i := 11) rfl)))))))), List.forall_mem_cons.mpr ⟨List.mem_cons_of_mem _ (List.mem_append_left _ (List.mem_append_left _ (List.mem_append_left _ (List.mem_append_left _ (List.mem_append_right _ (List.mem_append_right _ (List.mem_append_left _ (List.mem_of_getElem? (i := 12) rfl)))))))), List.forall_mem_cons.mpr ⟨List.mem_cons_of_mem _ (List.mem_append_left _ (List.mem_append_left _ (List.mem_append_left _ (List.mem_append_left _ (List.mem_append_right _ (List.mem_append_right _ (List.mem_append_left _ (List.mem_of_getElem? (i := 13) rfl)))))))), List.forall_mem_cons.mpr ⟨List.mem_cons_of_mem _ (List.mem_append_left _ (List.mem_append_left _ (List.mem_append_left _ (List.mem_append_left _ (List.mem_append_right _ (List.mem_append_right _ (List.mem_append_left _ (List.mem_of_getElem? (i := 14) rfl)))))))), List.forall_mem_cons.mpr ⟨List.mem_cons_of_mem _ (List.mem_append_left _ (List.mem_append_left _ (List.mem_append_left _ (List.mem_append_left _ (List.mem_append_right _ (List.mem_append_right _ (List.mem_append_left _ (List.mem_of_getElem? (i := 15) rfl)))))))), (fun _ h => absurd h List.not_mem_nil)⟩⟩⟩⟩⟩⟩⟩⟩⟩⟩⟩⟩⟩⟩⟩⟩, List.forall_mem_cons.mpr ⟨List.mem_cons_of_mem _ (List.mem_append_left _ (List.mem_append_left _ (List.mem_append_left _ (List.mem_append_left _ (List.mem_append_right _ (List.mem_append_right _ (List.mem_append_right _ (List.mem_of_getElem? (i := 0) rfl)))))))), (fun _ h => absurd h List.not_mem_nil)⟩⟩⟩, (fun _ h => List.mem_cons_of_mem _ (List.mem_append_left _ (List.mem_append_left _ (List.mem_append_left _ (List.mem_append_right _ h)))))⟩, (fun _ h => List.mem_cons_of_mem _ (List.mem_append_left _ (List.mem_append_right _ h)))⟩, (fun _ h => List.mem_cons_of_mem _ (List.mem_append_left _ (List.mem_append_left _ (List.mem_append_right _ h))))⟩, (fun _ h => List.mem_cons_of_mem _ (List.mem_append_right _ h))⟩⟩⟩) (by decide +kernel)
set_option maxRecDepth 20000 in
theorem gm_X8_look_eTG_X6_has_eTS_40 : GoodIn wm_X8_look_eTG (wsV RX8 40 RX6 yX6_has wm_X6_has_eTS) := goodIn_w (List.forall_mem_append.mpr ⟨List.forall_mem_cons.mpr ⟨List.mem_cons_of_mem _ (List.mem_append_left _ (List.mem_append_left _ (List.mem_append_left _ (List.mem_append_left _ (List.mem_append_right _ (List.mem_append_left _ (List.mem_of_getElem? (i := 9) rfl))))))), List.forall_mem_cons.mpr ⟨List.mem_cons_of_mem _ (List.mem_append_left _ (List.mem_append_left _ (List.mem_append_left _ (List.mem_append_left _ (List.mem_append_right _ (List.mem_append_left _ (List.mem_of_getElem? (i := 10) rfl))))))), List.forall_mem_cons.mpr ⟨List.mem_cons_of_mem _ (List.mem_append_left _ (List.mem_append_left _ (List.mem_append_left _ (List.mem_append_left _ (List.mem_append_right _ (List.mem_append_left _ (List.mem_of_getElem? (i := 11) rfl))))))), List.forall_mem_cons.mpr ⟨List.mem_cons_of_mem _ (List.mem_append_left _ (List.mem_append_left _ (List.mem_append_left _ (List.mem_append_left _ (List.mem_append_left _ (List.mem_of_getElem? (i := 9) rfl)))))), (fun _ h => absurd h List.not_mem_nil)⟩⟩⟩⟩, List.forall_mem_cons.mpr ⟨List.mem_cons_of_mem _ (List.mem_append_left _ (List.mem_append_left _ (List.mem_append_left _ (List.mem_append_left _ (List.mem_append_right _ (List.mem_append_left _ (List.mem_of_getElem? (i := 12) rfl))))))), List.forall_mem_append.mpr ⟨List.forall_mem_cons.mpr ⟨List.mem_cons_of_mem _ (List.mem_append_left _ (List.mem_append_left _ (List.mem_append_left _ (List.mem_append_left _ (List.mem_append_left _ (List.mem_of_getElem? (i := 11) rfl)))))), (fun _ h => absurd h List.not_mem_nil)⟩, (fun _ h => List.mem_cons_of_mem _ (List.mem_append_left _ (List.mem_append_left _ (List.mem_append_right _ h))))⟩⟩⟩) (by decide +kernel)
set_option maxHeartbeats 4000000 in
set_option maxRecDepth 100000 in
theorem x_X8_look_eTG (l : Launch) (D : va_G) (sz : Nat) (sk : Value) (a : Nat → Nat) (t : Nat → ClassId) (i : Nat → Int32) (q : Int64) (c : Nat → Nat → Int32) (d : Nat → Nat → Int64) (w : Int32) (hI : xInv i c) (hw : 0 ≤ w.toInt ∧ w.toInt ≤ 29) : Met l yX8_look wm_X8_look_eTG ({ frames := 3, cells := 0, slots := 0, locals := 69 }) (va_Pc [.ref (a 151), .int w] (yB (a 186) D sz (xwT sk a t i q c d) (xtT t))) (va_Qv (fun (u : MS) => True ∧ xInv u.1 u.2.2.1 ∧ (∀ k, k ∉ ([154] : List Nat) → u.1 k = i k) ∧ (∀ k, k ∉ ([152, 153] : List Nat) → u.2.2.1 k = c k) ∧ (LkR (zX (c 106) (c 108) (i 111).toInt) (hF (c 150)) (fX (c 150)) (bT (c 150) 0) (bT (c 150) 5) (bT (c 150) 2) (sD (c 133) (c 134)) w.toInt (i 111).toInt (u.2.2.1 152) (u.2.2.1 153) (u.1 154))) (oC D (va_A (xwT sk a t i q c d) sz) (fun u : MS => xwT sk a t u.1 u.2.1 u.2.2.1 u.2.2.2) (fun _ => [])) (va_A (xwT sk a t i q c d) sz)) 0 0 (va_A (xwT sk a t i q c d) sz) := by
  refine Met.ofW (cc := cX8_look) (maxL := 6) (ret := none) (by decide +kernel) rfl ?_
  intro p e s m args below meth cd s₁ B hml hv
  obtain ⟨rfl, ⟨hsz, hP, hK, hD0⟩, hN, hZ, hBW⟩ := hv
  have hx := B.exec
  have hb := B.bytes
  have hr := B.returns
  have hts := atoms_spec (ws := wm_X8_look_eTG) B.pre
  have hown : s.vm.findClass RX8 = some m.cls := findClass_of_methodNamed B.named
  have hlocks := B.notSynchronized
  subst hsz
  have hD := hD0.self (sz := s.heap.size)
  have hZ := xZ_A hZ hP hBW
  generalize hAe : va_A (xwT sk a t i q c d) s.heap.size = A at hD hZ ⊢
  have hA : ∀ q : Nat, s.heap.size ≤ q → A q := fun q h => by rw [← hAe]; exact Or.inr h
  have hS : va_S A s.heap s.heap [] := va_S.rf
  have hfi : ∀ k, k ∉ ([] : List Nat) → i k = i k := fun _ _ => rfl
  have hfc : ∀ k, k ∉ ([] : List Nat) → c k = c k := fun _ _ => rfl
  have hl := lv_entry ([.ref (a 151), .int w]) (n := 6) (Nat.le_of_ble_eq_true rfl)
  rw [lg_entry_eq]
  generalize (lg_sl ([.ref (a 151), .int w]) ++ List.replicate (6 - (lg_sl ([.ref (a 151), .int w])).length) Slot.unset).toArray = ls at hl ⊢
  have hl : lv_has ls 6 [(0, .ref (a 151)), (1, .int w)] := hl
  have rb111_i : 0 ≤ (i 111).toInt ∧ (i 111).toInt ≤ 30 := hI.1 111
  refine lv_aload_n hx hb dX8_look_0 rfl (lv_at hl 0 rfl) ?_
  refine lv_iload_n hx hb dX8_look_1 rfl (lv_at hl 1 rfl) ?_
  refine lv_iconst (v := 0) hx hb dX8_look_2 (by decide +kernel) ?_
  refine ro_calli (va_runV (As := [.int w, .int 0]) (rest := []) ⟨hx, hb, hml, hown, hts⟩ (x_X8_shellOf_eTG l D s.heap.size sk a t i q c d w 0 hI (show 0 ≤ w.toInt ∧ w.toInt ≤ 29 from by have h91 : (0 : Int32).toInt = 0 := (by decide +kernel); omega) (show 0 ≤ 0 ∧ 0 ≤ 1 from by decide +kernel)) (cwV 2 hts gm_X8_look_eTG_X8_shellOf_eTG_30 rfl rfl rfl (by decide +kernel) ⟨Nat.le_of_ble_eq_true rfl, Nat.le_of_ble_eq_true rfl⟩) (yA_V hN (xZ_k hZ hS hA) hK hP (ci := 8) (q0 := 39) rfl rfl) rfl rfl hl.1 rfl (lv_room (Nat.le_of_ble_eq_true rfl)) dX8_look_3 ⟨Nat.le_of_ble_eq_true rfl, Nat.le_of_ble_eq_true rfl⟩) hS hA hP (fun r1 u1 H locs hw1 hP hS => ?_)
  have hw1 : ((r1.toInt = -9 ∨ (0 ≤ r1.toInt ∧ r1.toInt ≤ 29)) ∧ (r1.toInt = shl (zX (c 106) (c 108) (i 111).toInt) (hF (c 150)) (bT (c 150) 0) (bT (c 150) 5) ((1 : Int) ≤ 0) w.toInt)) := hw1
  obtain ⟨hw1, hr1_0⟩ := hw1
  have hr1_0 : r1.toInt = shl (zX (c 106) (c 108) (i 111).toInt) (hF (c 150)) (bT (c 150) 0) (bT (c 150) 5) ((1 : Int) ≤ 0) w.toInt := hr1_0
  have hsh : r1.toInt = shl (zX (c 106) (c 108) (i 111).toInt) (hF (c 150)) (bT (c 150) 0) (bT (c 150) 5) ((1 : Int) ≤ 0) w.toInt := hr1_0
  refine lv_istore_n (lv' := [(2, .int r1), (0, .ref (a 151)), (1, .int w)]) hx hb dX8_look_6 rfl hl (by decide +kernel) rfl (fun ls hl => ?_)
  refine lv_aload_n hx hb dX8_look_7 rfl (lv_at hl 1 rfl) ?_
  refine lv_iload_n hx hb dX8_look_8 rfl (lv_at hl 2 rfl) ?_
  refine lv_iconst (v := 1) hx hb dX8_look_9 (by decide +kernel) ?_
  refine ro_calli (va_runV (As := [.int w, .int 1]) (rest := []) ⟨hx, hb, hml, hown, hts⟩ (x_X8_shellOf_eTG l D H.size sk a t i q c d w 1 hI (show 0 ≤ w.toInt ∧ w.toInt ≤ 29 from by have h91 : (1 : Int32).toInt = 1 := (by decide +kernel); omega) (show 0 ≤ 1 ∧ 1 ≤ 1 from by decide +kernel)) (cwV 2 hts gm_X8_look_eTG_X8_shellOf_eTG_30 rfl rfl rfl (by decide +kernel) ⟨Nat.le_of_ble_eq_true rfl, Nat.le_of_ble_eq_true rfl⟩) (yA_V hN (xZ_k hZ hS hA) hK hP (ci := 8) (q0 := 39) rfl rfl) rfl rfl hl.1 rfl (lv_room (Nat.le_of_ble_eq_true rfl)) dX8_look_10 ⟨Nat.le_of_ble_eq_true rfl, Nat.le_of_ble_eq_true rfl⟩) hS hA hP (fun r2 u2 H locs hw2 hP hS => ?_)
  have hw2 : ((r2.toInt = -9 ∨ (0 ≤ r2.toInt ∧ r2.toInt ≤ 29)) ∧ (r2.toInt = shl (zX (c 106) (c 108) (i 111).toInt) (hF (c 150)) (bT (c 150) 0) (bT (c 150) 5) ((1 : Int) ≤ 1) w.toInt)) := hw2
  obtain ⟨hw2, hr2_0⟩ := hw2
  have hr2_0 : r2.toInt = shl (zX (c 106) (c 108) (i 111).toInt) (hF (c 150)) (bT (c 150) 0) (bT (c 150) 5) ((1 : Int) ≤ 1) w.toInt := hr2_0
  have hha : r2.toInt = shl (zX (c 106) (c 108) (i 111).toInt) (hF (c 150)) (bT (c 150) 0) (bT (c 150) 5) ((1 : Int) ≤ 1) w.toInt := hr2_0
  refine lv_istore_n (lv' := [(3, .int r2), (2, .int r1), (0, .ref (a 151)), (1, .int w)]) hx hb dX8_look_13 rfl hl (by decide +kernel) rfl (fun ls hl => ?_)
  refine lv_aload_n hx hb dX8_look_14 rfl (lv_at hl 2 rfl) ?_
  refine lv_aload_n hx hb dX8_look_15 rfl (lv_at hl 2 rfl) ?_
  refine xgT_TG_world hx hb hts (fun _ h => List.mem_cons_of_mem _ (List.mem_append_left _ (List.mem_append_left _ (List.mem_append_left _ (List.mem_append_right _ h))))) hown hK hP (hts (.fieldLink RX8 18 "TalePlay$Sight" "world" "LTalePlay$World;") (List.mem_cons_of_mem _ (List.mem_append_left _ (List.mem_append_left _ (List.mem_append_left _ (List.mem_append_left _ (List.mem_append_left _ (List.mem_of_getElem? (i := 12) rfl)))))))) dX8_look_16 ?_
  refine lv_iload_n hx hb dX8_look_19 rfl (lv_at hl 1 rfl) ?_
  refine ro_calli (va_runV (As := [.int r1]) (rest := [.ref (a 151)]) ⟨hx, hb, hml, hown, hts⟩ (x_X10_sortOf_e l D H.size .null a t i q c d r1 hI ) (cwV 1 hts gm_X8_look_eTG_X10_sortOf_e_34 rfl rfl rfl (by decide +kernel) ⟨Nat.le_of_ble_eq_true rfl, Nat.le_of_ble_eq_true rfl⟩) (yA_V hN (xZ_k hZ hS hA) (xkT_W hK) (xuT_W (sk := sk) hP) (ci := 10) (q0 := 0) rfl rfl) rfl rfl hl.1 rfl (lv_room (Nat.le_of_ble_eq_true rfl)) dX8_look_20 ⟨Nat.le_of_ble_eq_true rfl, Nat.le_of_ble_eq_true rfl⟩) hS hA hP (fun r3 u3 H locs hw3 hP hS => ?_)
  have hw3 : (((r3.toInt = -9 ∧ ¬ (0 ≤ r1.toInt ∧ r1.toInt < (i 111).toInt)) ∨ (0 ≤ r3.toInt ∧ r3.toInt ≤ 5 ∧ 0 ≤ r1.toInt ∧ r1.toInt < (i 111).toInt)) ∧ (SO (c 106) (c 108) (i 111).toInt r1.toInt r3.toInt)) := hw3
  obtain ⟨hw3, hr3_0⟩ := hw3
  have hr3_0 : SO (c 106) (c 108) (i 111).toInt r1.toInt r3.toInt := hr3_0
  have hzs : r3.toInt = (zX (c 106) (c 108) (i 111).toInt) (shl (zX (c 106) (c 108) (i 111).toInt) (hF (c 150)) (bT (c 150) 0) (bT (c 150) 5) ((1 : Int) ≤ 0) w.toInt) := by rw [← hsh]; exact SO_z hr3_0
  have jn4 : ∀ (z4_0 : Int32), (0 ≤ z4_0.toInt ∧ z4_0.toInt ≤ 1) → (Sm z4_0 ((zX (c 106) (c 108) (i 111).toInt) (shl (zX (c 106) (c 108) (i 111).toInt) (hF (c 150)) (bT (c 150) 0) (bT (c 150) 5) ((1 : Int) ≤ 0) w.toInt) = 0 ∧ (bT (c 150) 2) (shl (zX (c 106) (c 108) (i 111).toInt) (hF (c 150)) (bT (c 150) 0) (bT (c 150) 5) ((1 : Int) ≤ 0) w.toInt))) → ∀ (H : Heap) (locs : List Loc) (ls : Array Slot), va_P D vwCl (xwT sk a t i q c d) H → va_D A (xwT sk a t i q c d) → va_S A s.heap H locs → lv_has ls 6 [(3, .int r2), (2, .int r1), (0, .ref (a 151)), (1, .int w)] → W p l e (headSpec wm_X8_look_eTG ({ frames := 3, cells := 0, slots := 0, locals := 69 })).room s m ([.ref (a 151), .int w] : List Value).toArray below meth cd H locs 0 0 (MQ below (va_Qv (fun (u : MS) => True ∧ xInv u.1 u.2.2.1 ∧ (∀ k, k ∉ ([154] : List Nat) → u.1 k = i k) ∧ (∀ k, k ∉ ([152, 153] : List Nat) → u.2.2.1 k = c k) ∧ (LkR (zX (c 106) (c 108) (i 111).toInt) (hF (c 150)) (fX (c 150)) (bT (c 150) 0) (bT (c 150) 5) (bT (c 150) 2) (sD (c 133) (c 134)) w.toInt (i 111).toInt (u.2.2.1 152) (u.2.2.1 153) (u.1 154))) (oC D A (fun u : MS => xwT sk a t u.1 u.2.1 u.2.2.1 u.2.2.2) (fun _ => [])) A) ([.ref (a 151), .int w] : List Value).toArray s 0 0 A) (F0 m 43 ls [.int z4_0, .ref (a 151)]) := by
    intro z4_0 hs4_0 hz4_0 H locs ls hP hD hS hl
    refine xpT_TG_bright hx hb hts (fun _ h => List.mem_cons_of_mem _ (List.mem_append_left _ (List.mem_append_left _ (List.mem_append_left _ (List.mem_append_right _ h))))) hown hK hP hD hS (hts (.fieldLink RX8 46 "TalePlay$Sight" "bright" "Z") (List.mem_cons_of_mem _ (List.mem_append_left _ (List.mem_append_left _ (List.mem_append_left _ (List.mem_append_left _ (List.mem_append_right _ (List.mem_append_left _ (List.mem_of_getElem? (i := 13) rfl))))))))) (nb_n (show 0 ≤ z4_0.toInt ∧ z4_0.toInt ≤ 1 from by omega)) (nb_f (show 0 ≤ z4_0.toInt ∧ z4_0.toInt ≤ 1 from by omega)) dX8_look_43 (fun H locs hP hD hS => ?_)
    have hI := xInv_i hI (k := 154) (v := z4_0) (show 0 ≤ (z4_0 : Int32).toInt ∧ (z4_0 : Int32).toInt ≤ 1 from by omega)
    have hfi : ∀ k, k ∉ ([154] : List Nat) → (upd i 154 z4_0) k = i k := fr_iz hfi (by decide +kernel) (by decide +kernel)
    refine lv_iconst (v := 0) hx hb dX8_look_46 (by decide +kernel) ?_
    refine lv_istore (lv' := [(4, .int 0), (3, .int r2), (2, .int r1), (0, .ref (a 151)), (1, .int w)]) hx hb dX8_look_47 hl (by decide +kernel) rfl (fun ls hl => ?_)
    have lp5 : ∀ (fu : Nat) (i5 : Nat → Int32) (q5 : Int64) (c5 : Nat → Nat → Int32) (d5 : Nat → Nat → Int64) (y5_4 : Int32), xInv i5 c5 → (∀ k, k ∉ ([154] : List Nat) → i5 k = i k) → (∀ k, k ∉ ([152] : List Nat) → c5 k = c k) → (0 ≤ y5_4.toInt ∧ y5_4.toInt ≤ 30 ∧ y5_4.toInt ≤ (i 111).toInt) → (LkA (V1 (zX (c 106) (c 108) (i 111).toInt) (hF (c 150)) (bT (c 150) 0) (bT (c 150) 5) (sD (c 133) (c 134)) ((1 : Int) ≤ 0) w.toInt) (c5 152) y5_4.toInt) → (Sm ((i5 154) : Int32) (BrM (zX (c 106) (c 108) (i 111).toInt) (hF (c 150)) (bT (c 150) 0) (bT (c 150) 5) (bT (c 150) 2) (sD (c 133) (c 134)) w.toInt y5_4.toInt)) → (30 - y5_4.toInt).toNat < fu → ∀ (H : Heap) (locs : List Loc) (ls : Array Slot), va_P D vwCl (xwT sk a t i5 q5 c5 d5) H → va_D A (xwT sk a t i5 q5 c5 d5) → va_S A s.heap H locs → lv_has ls 6 [(4, .int y5_4), (3, .int r2), (2, .int r1), (0, .ref (a 151)), (1, .int w)] → W p l e (headSpec wm_X8_look_eTG ({ frames := 3, cells := 0, slots := 0, locals := 69 })).room s m ([.ref (a 151), .int w] : List Value).toArray below meth cd H locs 0 0 (MQ below (va_Qv (fun (u : MS) => True ∧ xInv u.1 u.2.2.1 ∧ (∀ k, k ∉ ([154] : List Nat) → u.1 k = i k) ∧ (∀ k, k ∉ ([152, 153] : List Nat) → u.2.2.1 k = c k) ∧ (LkR (zX (c 106) (c 108) (i 111).toInt) (hF (c 150)) (fX (c 150)) (bT (c 150) 0) (bT (c 150) 5) (bT (c 150) 2) (sD (c 133) (c 134)) w.toInt (i 111).toInt (u.2.2.1 152) (u.2.2.1 153) (u.1 154))) (oC D A (fun u : MS => xwT sk a t u.1 u.2.1 u.2.2.1 u.2.2.2) (fun _ => [])) A) ([.ref (a 151), .int w] : List Value).toArray s 0 0 A) (F0 m 49 ls []) := by
      intro fu
      induction fu with
      | zero => intro i5 q5 c5 d5 y5_4 hI hfi hfc hy5_4 hz5_0 hz5_1 hm; exact absurd hm (Nat.not_lt_zero _)
      | succ fu ih =>
        intro i5 q5 c5 d5 y5_4 hI hfi hfc hy5_4 hz5_0 hz5_1 hm H locs ls hP hD hS hl
        have ih5 := ih
        refine lv_iload hx hb dX8_look_49 (lv_at hl 0 rfl) ?_
        refine lv_aload_n hx hb dX8_look_51 rfl (lv_at hl 3 rfl) ?_
        refine xgT_TG_world hx hb hts (fun _ h => List.mem_cons_of_mem _ (List.mem_append_left _ (List.mem_append_left _ (List.mem_append_left _ (List.mem_append_right _ h))))) hown hK hP (hts (.fieldLink RX8 18 "TalePlay$Sight" "world" "LTalePlay$World;") (List.mem_cons_of_mem _ (List.mem_append_left _ (List.mem_append_left _ (List.mem_append_left _ (List.mem_append_left _ (List.mem_append_left _ (List.mem_of_getElem? (i := 12) rfl)))))))) dX8_look_52 ?_
        refine xgT_W_objects (v := (i5 111)) rfl hx hb hts (fun _ h => List.mem_cons_of_mem _ (List.mem_append_left _ (List.mem_append_right _ h))) hown hK hP (hts (.fieldLink RX8 50 "TalePlay$World" "objects" "I") (List.mem_cons_of_mem _ (List.mem_append_left _ (List.mem_append_left _ (List.mem_append_left _ (List.mem_append_left _ (List.mem_append_right _ (List.mem_append_left _ (List.mem_of_getElem? (i := 14) rfl))))))))) dX8_look_55 ?_
        have rb111_i5 : 0 ≤ (i5 111).toInt ∧ (i5 111).toInt ≤ 30 := hI.1 111
        have re111_i5 : (i5 111).toInt = (i 111).toInt := congrArg Int32.toInt (hfi 111 (by decide +kernel))
        refine lv_icmp_ge (tgt := 135) hx hb dX8_look_58 (by decide +kernel) (fun c6 => ?_) (fun c6 => ?_)
        · have f6 := (ti_le (a := (i5 111).toInt) (b := y5_4.toInt) rfl rfl).mp c6
          refine lv_iconst (v := 0) hx hb dX8_look_135 (by decide +kernel) ?_
          refine lv_istore (lv' := [(4, .int 0), (3, .int r2), (2, .int r1), (0, .ref (a 151)), (1, .int w)]) hx hb dX8_look_136 hl (by decide +kernel) rfl (fun ls hl => ?_)
          have lp7 : ∀ (fu : Nat) (i7 : Nat → Int32) (q7 : Int64) (c7 : Nat → Nat → Int32) (d7 : Nat → Nat → Int64) (y7_4 : Int32), xInv i7 c7 → (∀ k, k ∉ ([154] : List Nat) → i7 k = i k) → (∀ k, k ∉ ([152, 153] : List Nat) → c7 k = c k) → (0 ≤ y7_4.toInt ∧ y7_4.toInt ≤ 30 ∧ y7_4.toInt ≤ (i 111).toInt) → (LkB (V1 (zX (c 106) (c 108) (i 111).toInt) (hF (c 150)) (bT (c 150) 0) (bT (c 150) 5) (sD (c 133) (c 134)) ((1 : Int) ≤ 0) w.toInt) (SnP (zX (c 106) (c 108) (i 111).toInt) (hF (c 150)) (fX (c 150)) (bT (c 150) 0) (bT (c 150) 5) (bT (c 150) 2) (sD (c 133) (c 134)) w.toInt (i 111).toInt) (RcP (zX (c 106) (c 108) (i 111).toInt) (hF (c 150)) (fX (c 150)) (bT (c 150) 0) (bT (c 150) 5) (bT (c 150) 2) (sD (c 133) (c 134)) w.toInt (i 111).toInt) (c7 152) (c7 153) y7_4.toInt (i 111).toInt) → (Sm ((i7 154) : Int32) (BrM (zX (c 106) (c 108) (i 111).toInt) (hF (c 150)) (bT (c 150) 0) (bT (c 150) 5) (bT (c 150) 2) (sD (c 133) (c 134)) w.toInt (i 111).toInt)) → (30 - y7_4.toInt).toNat < fu → ∀ (H : Heap) (locs : List Loc) (ls : Array Slot), va_P D vwCl (xwT sk a t i7 q7 c7 d7) H → va_D A (xwT sk a t i7 q7 c7 d7) → va_S A s.heap H locs → lv_has ls 6 [(4, .int y7_4), (3, .int r2), (2, .int r1), (0, .ref (a 151)), (1, .int w)] → W p l e (headSpec wm_X8_look_eTG ({ frames := 3, cells := 0, slots := 0, locals := 69 })).room s m ([.ref (a 151), .int w] : List Value).toArray below meth cd H locs 0 0 (MQ below (va_Qv (fun (u : MS) => True ∧ xInv u.1 u.2.2.1 ∧ (∀ k, k ∉ ([154] : List Nat) → u.1 k = i k) ∧ (∀ k, k ∉ ([152, 153] : List Nat) → u.2.2.1 k = c k) ∧ (LkR (zX (c 106) (c 108) (i 111).toInt) (hF (c 150)) (fX (c 150)) (bT (c 150) 0) (bT (c 150) 5) (bT (c 150) 2) (sD (c 133) (c 134)) w.toInt (i 111).toInt (u.2.2.1 152) (u.2.2.1 153) (u.1 154))) (oC D A (fun u : MS => xwT sk a t u.1 u.2.1 u.2.2.1 u.2.2.2) (fun _ => [])) A) ([.ref (a 151), .int w] : List Value).toArray s 0 0 A) (F0 m 138 ls []) := by
            intro fu
            induction fu with
            | zero => intro i7 q7 c7 d7 y7_4 hI hfi hfc hy7_4 hz7_0 hz7_1 hm; exact absurd hm (Nat.not_lt_zero _)
            | succ fu ih =>
              intro i7 q7 c7 d7 y7_4 hI hfi hfc hy7_4 hz7_0 hz7_1 hm H locs ls hP hD hS hl
              have ih7 := ih
              refine lv_iload hx hb dX8_look_138 (lv_at hl 0 rfl) ?_
              refine lv_aload_n hx hb dX8_look_140 rfl (lv_at hl 3 rfl) ?_
              refine xgT_TG_world hx hb hts (fun _ h => List.mem_cons_of_mem _ (List.mem_append_left _ (List.mem_append_left _ (List.mem_append_left _ (List.mem_append_right _ h))))) hown hK hP (hts (.fieldLink RX8 18 "TalePlay$Sight" "world" "LTalePlay$World;") (List.mem_cons_of_mem _ (List.mem_append_left _ (List.mem_append_left _ (List.mem_append_left _ (List.mem_append_left _ (List.mem_append_left _ (List.mem_of_getElem? (i := 12) rfl)))))))) dX8_look_141 ?_
              refine xgT_W_objects (v := (i7 111)) rfl hx hb hts (fun _ h => List.mem_cons_of_mem _ (List.mem_append_left _ (List.mem_append_right _ h))) hown hK hP (hts (.fieldLink RX8 50 "TalePlay$World" "objects" "I") (List.mem_cons_of_mem _ (List.mem_append_left _ (List.mem_append_left _ (List.mem_append_left _ (List.mem_append_left _ (List.mem_append_right _ (List.mem_append_left _ (List.mem_of_getElem? (i := 14) rfl))))))))) dX8_look_144 ?_
              have rb111_i7 : 0 ≤ (i7 111).toInt ∧ (i7 111).toInt ≤ 30 := hI.1 111
              have re111_i7 : (i7 111).toInt = (i 111).toInt := congrArg Int32.toInt (hfi 111 (by decide +kernel))
              refine lv_icmp_ge (tgt := 264) hx hb dX8_look_147 (by decide +kernel) (fun c8 => ?_) (fun c8 => ?_)
              · have f8 := (ti_le (a := (i7 111).toInt) (b := y7_4.toInt) rfl rfl).mp c8
                exact rw_vret (i7, q7, c7, d7) hx hb hr hlocks hS (hK.sub (tys' := []) [] rfl) hP hD dX8_look_264 ⟨trivial, hI, fr_w hfi (by decide +kernel), fr_w hfc (by decide +kernel), (show LkR (zX (c 106) (c 108) (i 111).toInt) (hF (c 150)) (fX (c 150)) (bT (c 150) 0) (bT (c 150) 5) (bT (c 150) 2) (sD (c 133) (c 134)) w.toInt (i 111).toInt (c7 152) (c7 153) ((i7 154) : Int32) from ⟨hz7_1, fun o9 h9 => (hz7_0 o9 h9).1 (by omega)⟩)⟩
              · have f8 := mt (ti_le (a := (i7 111).toInt) (b := y7_4.toInt) rfl rfl).mpr c8
                refine lv_aload_n hx hb dX8_look_150 rfl (lv_at hl 3 rfl) ?_
                refine xgT_TG_scene hx hb hts (fun _ h => List.mem_cons_of_mem _ (List.mem_append_left _ (List.mem_append_left _ (List.mem_append_left _ (List.mem_append_right _ h))))) hown hK hP (hts (.fieldLink RX8 26 "TalePlay$Sight" "scene" "LTalePlay$Scene;") (List.mem_cons_of_mem _ (List.mem_append_left _ (List.mem_append_left _ (List.mem_append_left _ (List.mem_append_left _ (List.mem_append_left _ (List.mem_of_getElem? (i := 5) rfl)))))))) dX8_look_151 ?_
                refine lv_iload hx hb dX8_look_154 (lv_at hl 0 rfl) ?_
                refine lv_iconst (v := 2) hx hb dX8_look_156 (by decide +kernel) ?_
                refine lv_iload_n hx hb dX8_look_157 rfl (lv_at hl 4 rfl) ?_
                refine ro_calli (va_runV (As := [.int y7_4, .int 2, .int w]) (rest := []) ⟨hx, hb, hml, hown, hts⟩ (x_X6_lies_eTS l D H.size .null a t i7 q7 c7 d7 y7_4 2 w hI (show 0 ≤ y7_4.toInt ∧ y7_4.toInt ≤ 29 from by have h91 : (2 : Int32).toInt = 2 := (by decide +kernel); omega) (show 0 ≤ 2 ∧ 2 ≤ 7 from by decide +kernel) (show 0 ≤ w.toInt ∧ w.toInt ≤ 31 from by have h91 : (2 : Int32).toInt = 2 := (by decide +kernel); omega)) (cwV 3 hts gm_X8_look_eTG_X6_lies_eTS_58 rfl rfl rfl (by decide +kernel) ⟨Nat.le_of_ble_eq_true rfl, Nat.le_of_ble_eq_true rfl⟩) (yA_V hN (xZ_k hZ hS hA) (xkT_P1 hK) (xuT_P1 (sk := sk) hP) (ci := 6) (q0 := 0) rfl rfl) rfl rfl hl.1 rfl (lv_room (Nat.le_of_ble_eq_true rfl)) dX8_look_158 ⟨Nat.le_of_ble_eq_true rfl, Nat.le_of_ble_eq_true rfl⟩) hS hA hP (fun r9 u9 H locs hw9 hP hS => ?_)
                have hw9 : ((0 ≤ r9.toInt ∧ r9.toInt ≤ 1) ∧ (Sm r9 ((c7 150 y7_4.toInt.toNat).toInt % 256 = w.toInt * 8 + 2))) := hw9
                obtain ⟨hw9, hr9_0⟩ := hw9
                have hr9_0 : Sm r9 ((c 150 y7_4.toInt.toNat).toInt % 256 = w.toInt * 8 + 2) := by have h9 := hr9_0; rw [show c7 150 = c 150 from hfc 150 (by decide +kernel)] at h9; exact h9
                have jn10 : ∀ (z10_0 : Int32), (0 ≤ z10_0.toInt ∧ z10_0.toInt ≤ 1) → (Sm z10_0 (Own (hF (c 150)) (fX (c 150)) w.toInt y7_4.toInt)) → ∀ (H : Heap) (locs : List Loc) (ls : Array Slot), va_P D vwCl (xwT sk a t i7 q7 c7 d7) H → va_D A (xwT sk a t i7 q7 c7 d7) → va_S A s.heap H locs → lv_has ls 6 [(4, .int y7_4), (3, .int r2), (2, .int r1), (0, .ref (a 151)), (1, .int w)] → W p l e (headSpec wm_X8_look_eTG ({ frames := 3, cells := 0, slots := 0, locals := 69 })).room s m ([.ref (a 151), .int w] : List Value).toArray below meth cd H locs 0 0 (MQ below (va_Qv (fun (u : MS) => True ∧ xInv u.1 u.2.2.1 ∧ (∀ k, k ∉ ([154] : List Nat) → u.1 k = i k) ∧ (∀ k, k ∉ ([152, 153] : List Nat) → u.2.2.1 k = c k) ∧ (LkR (zX (c 106) (c 108) (i 111).toInt) (hF (c 150)) (fX (c 150)) (bT (c 150) 0) (bT (c 150) 5) (bT (c 150) 2) (sD (c 133) (c 134)) w.toInt (i 111).toInt (u.2.2.1 152) (u.2.2.1 153) (u.1 154))) (oC D A (fun u : MS => xwT sk a t u.1 u.2.1 u.2.2.1 u.2.2.2) (fun _ => [])) A) ([.ref (a 151), .int w] : List Value).toArray s 0 0 A) (F0 m 183 ls [.int z10_0]) := by
                  intro z10_0 hs10_0 hz10_0 H locs ls hP hD hS hl
                  refine lv_istore (lv' := [(5, .int z10_0), (4, .int y7_4), (3, .int r2), (2, .int r1), (0, .ref (a 151)), (1, .int w)]) hx hb dX8_look_183 hl (by decide +kernel) rfl (fun ls hl => ?_)
                  refine lv_aload_n hx hb dX8_look_185 rfl (lv_at hl 4 rfl) ?_
                  refine xgT_TG_seen hx hb hts (fun _ h => List.mem_cons_of_mem _ (List.mem_append_left _ (List.mem_append_left _ (List.mem_append_left _ (List.mem_append_right _ h))))) hown hK hP (hts (.fieldLink RX8 9 "TalePlay$Sight" "seen" "[Z") (List.mem_cons_of_mem _ (List.mem_append_left _ (List.mem_append_left _ (List.mem_append_left _ (List.mem_append_left _ (List.mem_append_right _ (List.mem_append_right _ (List.mem_append_left _ (List.mem_of_getElem? (i := 3) rfl)))))))))) dX8_look_186 ?_
                  refine lv_iload hx hb dX8_look_189 (lv_at hl 1 rfl) ?_
                  refine lv_iload hx hb dX8_look_191 (lv_at hl 0 rfl) ?_
                  have jn11 : ∀ (z11_0 : Int32), (0 ≤ z11_0.toInt ∧ z11_0.toInt ≤ 1) → (Sm z11_0 ((SnP (zX (c 106) (c 108) (i 111).toInt) (hF (c 150)) (fX (c 150)) (bT (c 150) 0) (bT (c 150) 5) (bT (c 150) 2) (sD (c 133) (c 134)) w.toInt (i 111).toInt) y7_4.toInt)) → ∀ (H : Heap) (locs : List Loc) (ls : Array Slot), va_P D vwCl (xwT sk a t i7 q7 c7 d7) H → va_D A (xwT sk a t i7 q7 c7 d7) → va_S A s.heap H locs → lv_has ls 6 [(5, .int z10_0), (4, .int y7_4), (3, .int r2), (2, .int r1), (0, .ref (a 151)), (1, .int w)] → W p l e (headSpec wm_X8_look_eTG ({ frames := 3, cells := 0, slots := 0, locals := 69 })).room s m ([.ref (a 151), .int w] : List Value).toArray below meth cd H locs 0 0 (MQ below (va_Qv (fun (u : MS) => True ∧ xInv u.1 u.2.2.1 ∧ (∀ k, k ∉ ([154] : List Nat) → u.1 k = i k) ∧ (∀ k, k ∉ ([152, 153] : List Nat) → u.2.2.1 k = c k) ∧ (LkR (zX (c 106) (c 108) (i 111).toInt) (hF (c 150)) (fX (c 150)) (bT (c 150) 0) (bT (c 150) 5) (bT (c 150) 2) (sD (c 133) (c 134)) w.toInt (i 111).toInt (u.2.2.1 152) (u.2.2.1 153) (u.1 154))) (oC D A (fun u : MS => xwT sk a t u.1 u.2.1 u.2.2.1 u.2.2.2) (fun _ => [])) A) ([.ref (a 151), .int w] : List Value).toArray s 0 0 A) (F0 m 218 ls [.int z11_0, .int y7_4, .ref (a 152)]) := by
                    intro z11_0 hs11_0 hz11_0 H locs ls hP hD hS hl
                    refine xsT_152 hx hb hK hP hD hS (vp_in_iff.mpr (by have h9 : y7_4.toInt = y7_4.toInt := rfl; omega)) (nb_z (show 0 ≤ (z11_0 : Int32).toInt ∧ (z11_0 : Int32).toInt ≤ 1 from by omega)) dX8_look_218 (fun H locs hP hD hS => ?_)
                    have hI := xInv_c hI (k := 152) (j := (y7_4 : Int32).toNatClampNeg) (x := z11_0) (show 0 ≤ (z11_0 : Int32).toInt ∧ (z11_0 : Int32).toInt ≤ 1 from by omega)
                    have hfc := fr_c hfc (k := 152) (j := (y7_4 : Int32).toNatClampNeg) (x := z11_0) (by decide +kernel)
                    refine lv_aload_n hx hb dX8_look_219 rfl (lv_at hl 4 rfl) ?_
                    refine xgT_TG_reached hx hb hts (fun _ h => List.mem_cons_of_mem _ (List.mem_append_left _ (List.mem_append_left _ (List.mem_append_left _ (List.mem_append_right _ h))))) hown hK hP (hts (.fieldLink RX8 15 "TalePlay$Sight" "reached" "[Z") (List.mem_cons_of_mem _ (List.mem_append_left _ (List.mem_append_left _ (List.mem_append_left _ (List.mem_append_left _ (List.mem_append_right _ (List.mem_append_right _ (List.mem_append_left _ (List.mem_of_getElem? (i := 4) rfl)))))))))) dX8_look_220 ?_
                    refine lv_iload hx hb dX8_look_223 (lv_at hl 1 rfl) ?_
                    refine lv_aload_n hx hb dX8_look_225 rfl (lv_at hl 4 rfl) ?_
                    refine xgT_TG_seen hx hb hts (fun _ h => List.mem_cons_of_mem _ (List.mem_append_left _ (List.mem_append_left _ (List.mem_append_left _ (List.mem_append_right _ h))))) hown hK hP (hts (.fieldLink RX8 9 "TalePlay$Sight" "seen" "[Z") (List.mem_cons_of_mem _ (List.mem_append_left _ (List.mem_append_left _ (List.mem_append_left _ (List.mem_append_left _ (List.mem_append_right _ (List.mem_append_right _ (List.mem_append_left _ (List.mem_of_getElem? (i := 3) rfl)))))))))) dX8_look_226 ?_
                    refine lv_iload hx hb dX8_look_229 (lv_at hl 1 rfl) ?_
                    refine xlT_152 hx hb hK hP (vp_in_iff.mpr (by have h9 : y7_4.toInt = y7_4.toInt := rfl; omega)) dX8_look_231 (fun x12 ex12 => ?_)
                    have rx12 : 0 ≤ x12.toInt ∧ x12.toInt ≤ 1 := by rw [ex12]; exact hI.2 152 _
                    have gx12 : ((updA c7 152 (y7_4 : Int32).toNatClampNeg z11_0) 152 (y7_4 : Int32).toNatClampNeg).toInt = x12.toInt := by rw [ex12]
                    have hsv3 : x12 = z11_0 := by rw [ex12]; show upd (c7 152) (y7_4 : Int32).toNatClampNeg z11_0 (y7_4 : Int32).toNatClampNeg = z11_0; exact pk_us
                    have jn13 : ∀ (z13_0 : Int32), (0 ≤ z13_0.toInt ∧ z13_0.toInt ≤ 1) → (Sm z13_0 ((RcP (zX (c 106) (c 108) (i 111).toInt) (hF (c 150)) (fX (c 150)) (bT (c 150) 0) (bT (c 150) 5) (bT (c 150) 2) (sD (c 133) (c 134)) w.toInt (i 111).toInt) y7_4.toInt)) → ∀ (H : Heap) (locs : List Loc) (ls : Array Slot), va_P D vwCl (xwT sk a t i7 q7 (updA c7 152 (y7_4 : Int32).toNatClampNeg z11_0) d7) H → va_D A (xwT sk a t i7 q7 (updA c7 152 (y7_4 : Int32).toNatClampNeg z11_0) d7) → va_S A s.heap H locs → lv_has ls 6 [(5, .int z10_0), (4, .int y7_4), (3, .int r2), (2, .int r1), (0, .ref (a 151)), (1, .int w)] → W p l e (headSpec wm_X8_look_eTG ({ frames := 3, cells := 0, slots := 0, locals := 69 })).room s m ([.ref (a 151), .int w] : List Value).toArray below meth cd H locs 0 0 (MQ below (va_Qv (fun (u : MS) => True ∧ xInv u.1 u.2.2.1 ∧ (∀ k, k ∉ ([154] : List Nat) → u.1 k = i k) ∧ (∀ k, k ∉ ([152, 153] : List Nat) → u.2.2.1 k = c k) ∧ (LkR (zX (c 106) (c 108) (i 111).toInt) (hF (c 150)) (fX (c 150)) (bT (c 150) 0) (bT (c 150) 5) (bT (c 150) 2) (sD (c 133) (c 134)) w.toInt (i 111).toInt (u.2.2.1 152) (u.2.2.1 153) (u.1 154))) (oC D A (fun u : MS => xwT sk a t u.1 u.2.1 u.2.2.1 u.2.2.2) (fun _ => [])) A) ([.ref (a 151), .int w] : List Value).toArray s 0 0 A) (F0 m 257 ls [.int z13_0, .int y7_4, .ref (a 153)]) := by
                      intro z13_0 hs13_0 hz13_0 H locs ls hP hD hS hl
                      refine xsT_153 hx hb hK hP hD hS (vp_in_iff.mpr (by have h9 : y7_4.toInt = y7_4.toInt := rfl; omega)) (nb_z (show 0 ≤ (z13_0 : Int32).toInt ∧ (z13_0 : Int32).toInt ≤ 1 from by omega)) dX8_look_257 (fun H locs hP hD hS => ?_)
                      have hI := xInv_c hI (k := 153) (j := (y7_4 : Int32).toNatClampNeg) (x := z13_0) (show 0 ≤ (z13_0 : Int32).toInt ∧ (z13_0 : Int32).toInt ≤ 1 from by omega)
                      have hfc := fr_c hfc (k := 153) (j := (y7_4 : Int32).toNatClampNeg) (x := z13_0) (by decide +kernel)
                      obtain ⟨x14, ex14⟩ : ∃ y : Int32, y = y7_4 + 1 := ⟨_, rfl⟩
                      have tx14 := ti_add (a := y7_4.toInt) (b := 1) ex14 rfl (by decide +kernel) (by omega) (by omega)
                      refine lv_iinc (v := x14) (lv' := [(4, .int x14), (5, .int z10_0), (3, .int r2), (2, .int r1), (0, .ref (a 151)), (1, .int w)]) hx hb dX8_look_258 hl (k := 1) rfl (by rw [ex14]; rfl) (by decide +kernel) rfl (fun ls hl => ?_)
                      refine lv_goto (tgt := 138) hx hb dX8_look_261 (by decide +kernel) ?_
                      exact ih7 i7 q7 (updA (updA c7 152 (y7_4 : Int32).toNatClampNeg z11_0) 153 (y7_4 : Int32).toNatClampNeg z13_0) d7 x14 hI (fr_w hfi (by decide +kernel)) (fr_w hfc (by decide +kernel)) (show 0 ≤ x14.toInt ∧ x14.toInt ≤ 30 ∧ x14.toInt ≤ (i 111).toInt from by have h50 : x14.toInt = (y7_4.toInt + 1) := tx14; omega) (show LkB (V1 (zX (c 106) (c 108) (i 111).toInt) (hF (c 150)) (bT (c 150) 0) (bT (c 150) 5) (sD (c 133) (c 134)) ((1 : Int) ≤ 0) w.toInt) (SnP (zX (c 106) (c 108) (i 111).toInt) (hF (c 150)) (fX (c 150)) (bT (c 150) 0) (bT (c 150) 5) (bT (c 150) 2) (sD (c 133) (c 134)) w.toInt (i 111).toInt) (RcP (zX (c 106) (c 108) (i 111).toInt) (hF (c 150)) (fX (c 150)) (bT (c 150) 0) (bT (c 150) 5) (bT (c 150) 2) (sD (c 133) (c 134)) w.toInt (i 111).toInt) ((updA (updA c7 152 (y7_4 : Int32).toNatClampNeg z11_0) 153 (y7_4 : Int32).toNatClampNeg z13_0) 152) ((updA (updA c7 152 (y7_4 : Int32).toNatClampNeg z11_0) 153 (y7_4 : Int32).toNatClampNeg z13_0) 153) x14.toInt (i 111).toInt from LkB_s hz7_0 (by omega) tx14 hz11_0 hz13_0) (show Sm ((i7 154) : Int32) (BrM (zX (c 106) (c 108) (i 111).toInt) (hF (c 150)) (bT (c 150) 0) (bT (c 150) 5) (bT (c 150) 2) (sD (c 133) (c 134)) w.toInt (i 111).toInt) from hz7_1) (by have h50 : x14.toInt = (y7_4.toInt + 1) := tx14; omega) _ _ _ hP hD hS (lv_sub hl [0, 2, 3, 4, 5] rfl)
                    refine lv_if_eq (tgt := 256) hx hb dX8_look_232 (by decide +kernel) (fun c15 => ?_) (fun c15 => ?_)
                    · have f15 := (ti_eq (a := x12.toInt) (b := 0) rfl (by decide +kernel)).mp c15
                      refine lv_iconst (v := 0) hx hb dX8_look_256 (by decide +kernel) ?_
                      exact jn13  (0 : Int32) (show 0 ≤ (0 : Int32).toInt ∧ (0 : Int32).toInt ≤ 1 from by decide +kernel) (show Sm (0 : Int32) ((RcP (zX (c 106) (c 108) (i 111).toInt) (hF (c 150)) (fX (c 150)) (bT (c 150) 0) (bT (c 150) 5) (bT (c 150) 2) (sD (c 133) (c 134)) w.toInt (i 111).toInt) y7_4.toInt) from sm_0 (fun h9 => sm_x hz11_0 (by rw [← hsv3]; omega) h9.1)) _ _ _ hP hD hS (lv_sub hl [0, 1, 2, 3, 4, 5] rfl)
                    · have f15 := mt (ti_eq (a := x12.toInt) (b := 0) rfl (by decide +kernel)).mpr c15
                      refine lv_iload hx hb dX8_look_235 (lv_at hl 1 rfl) ?_
                      refine lv_iload_n hx hb dX8_look_237 rfl (lv_at hl 5 rfl) ?_
                      refine lv_icmp_eq (tgt := 252) hx hb dX8_look_238 (by decide +kernel) (fun c16 => ?_) (fun c16 => ?_)
                      · have f16 := (ti_eq (a := y7_4.toInt) (b := w.toInt) rfl rfl).mp c16
                        refine lv_iconst (v := 1) hx hb dX8_look_252 (by decide +kernel) ?_
                        refine lv_goto (tgt := 257) hx hb dX8_look_253 (by decide +kernel) ?_
                        exact jn13  (1 : Int32) (show 0 ≤ (1 : Int32).toInt ∧ (1 : Int32).toInt ≤ 1 from by decide +kernel) (show Sm (1 : Int32) ((RcP (zX (c 106) (c 108) (i 111).toInt) (hF (c 150)) (fX (c 150)) (bT (c 150) 0) (bT (c 150) 5) (bT (c 150) 2) (sD (c 133) (c 134)) w.toInt (i 111).toInt) y7_4.toInt) from sm_1 ⟨sm_1t hz11_0 (by rw [← hsv3]; omega), by first | exact Or.inl (by omega)⟩) _ _ _ hP hD hS (lv_sub hl [0, 1, 2, 3, 4, 5] rfl)
                      · have f16 := mt (ti_eq (a := y7_4.toInt) (b := w.toInt) rfl rfl).mpr c16
                        refine lv_aload_n hx hb dX8_look_241 rfl (lv_at hl 4 rfl) ?_
                        refine lv_iload hx hb dX8_look_242 (lv_at hl 1 rfl) ?_
                        refine lv_iload_n hx hb dX8_look_244 rfl (lv_at hl 2 rfl) ?_
                        refine lv_iconst (v := 1) hx hb dX8_look_245 (by decide +kernel) ?_
                        refine ro_calli (va_runV (As := [.int y7_4, .int r2, .int 1]) (rest := [.int y7_4, .ref (a 153)]) ⟨hx, hb, hml, hown, hts⟩ (x_X8_isInView_eTG l D H.size sk a t i7 q7 (updA c7 152 (y7_4 : Int32).toNatClampNeg z11_0) d7 y7_4 r2 1 hI (show 0 ≤ y7_4.toInt ∧ y7_4.toInt ≤ 29 from by have h92 : (1 : Int32).toInt = 1 := (by decide +kernel); omega) (show r2.toInt = -9 ∨ (0 ≤ r2.toInt ∧ r2.toInt ≤ 29) from by have h92 : (1 : Int32).toInt = 1 := (by decide +kernel); omega) (show 0 ≤ 1 ∧ 1 ≤ 1 from by decide +kernel)) (cwV 3 hts gm_X8_look_eTG_X8_isInView_eTG_54 rfl rfl rfl (by decide +kernel) ⟨Nat.le_of_ble_eq_true rfl, Nat.le_of_ble_eq_true rfl⟩) (yA_V hN (xZ_k hZ hS hA) hK hP (ci := 8) (q0 := 39) rfl rfl) rfl rfl hl.1 rfl (lv_room (Nat.le_of_ble_eq_true rfl)) dX8_look_246 ⟨Nat.le_of_ble_eq_true rfl, Nat.le_of_ble_eq_true rfl⟩) hS hA hP (fun r17 u17 H locs hw17 hP hS => ?_)
                        have hw17 : ((0 ≤ r17.toInt ∧ r17.toInt ≤ 1) ∧ (Sm r17 (Vw (zX ((updA c7 152 (y7_4 : Int32).toNatClampNeg z11_0) 106) ((updA c7 152 (y7_4 : Int32).toNatClampNeg z11_0) 108) (i7 111).toInt) (hF ((updA c7 152 (y7_4 : Int32).toNatClampNeg z11_0) 150)) (bT ((updA c7 152 (y7_4 : Int32).toNatClampNeg z11_0) 150) 0) (bT ((updA c7 152 (y7_4 : Int32).toNatClampNeg z11_0) 150) 5) (sD ((updA c7 152 (y7_4 : Int32).toNatClampNeg z11_0) 133) ((updA c7 152 (y7_4 : Int32).toNatClampNeg z11_0) 134)) ((1 : Int) ≤ 1) r2.toInt y7_4.toInt))) := hw17
                        obtain ⟨hw17, hr17_0⟩ := hw17
                        have hr17_0 : Sm r17 (Vw (zX (c 106) (c 108) (i 111).toInt) (hF (c 150)) (bT (c 150) 0) (bT (c 150) 5) (sD (c 133) (c 134)) ((1 : Int) ≤ 1) r2.toInt y7_4.toInt) := by have h9 := hr17_0; rw [show (updA c7 152 (y7_4 : Int32).toNatClampNeg z11_0) 106 = c 106 from hfc 106 (by decide +kernel), show (updA c7 152 (y7_4 : Int32).toNatClampNeg z11_0) 108 = c 108 from hfc 108 (by decide +kernel), show (updA c7 152 (y7_4 : Int32).toNatClampNeg z11_0) 133 = c 133 from hfc 133 (by decide +kernel), show (updA c7 152 (y7_4 : Int32).toNatClampNeg z11_0) 134 = c 134 from hfc 134 (by decide +kernel), show (updA c7 152 (y7_4 : Int32).toNatClampNeg z11_0) 150 = c 150 from hfc 150 (by decide +kernel), show i7 111 = i 111 from hfi 111 (by decide +kernel)] at h9; exact h9
                        refine lv_if_eq (tgt := 256) hx hb dX8_look_249 (by decide +kernel) (fun c18 => ?_) (fun c18 => ?_)
                        · have f18 := (ti_eq (a := r17.toInt) (b := 0) rfl (by decide +kernel)).mp c18
                          have s18 := sm_f hr17_0 c18
                          refine lv_iconst (v := 0) hx hb dX8_look_256 (by decide +kernel) ?_
                          exact jn13  (0 : Int32) (show 0 ≤ (0 : Int32).toInt ∧ (0 : Int32).toInt ≤ 1 from by decide +kernel) (show Sm (0 : Int32) ((RcP (zX (c 106) (c 108) (i 111).toInt) (hF (c 150)) (fX (c 150)) (bT (c 150) 0) (bT (c 150) 5) (bT (c 150) 2) (sD (c 133) (c 134)) w.toInt (i 111).toInt) y7_4.toInt) from sm_0 (fun h9 => h9.2.elim (fun h8 => by omega) (fun h8 => by rw [← hha] at h8; exact s18 h8))) _ _ _ hP hD hS (lv_sub hl [0, 1, 2, 3, 4, 5] rfl)
                        · have f18 := mt (ti_eq (a := r17.toInt) (b := 0) rfl (by decide +kernel)).mpr c18
                          have s18 := sm_t hr17_0 c18
                          refine lv_iconst (v := 1) hx hb dX8_look_252 (by decide +kernel) ?_
                          refine lv_goto (tgt := 257) hx hb dX8_look_253 (by decide +kernel) ?_
                          exact jn13  (1 : Int32) (show 0 ≤ (1 : Int32).toInt ∧ (1 : Int32).toInt ≤ 1 from by decide +kernel) (show Sm (1 : Int32) ((RcP (zX (c 106) (c 108) (i 111).toInt) (hF (c 150)) (fX (c 150)) (bT (c 150) 0) (bT (c 150) 5) (bT (c 150) 2) (sD (c 133) (c 134)) w.toInt (i 111).toInt) y7_4.toInt) from sm_1 ⟨sm_1t hz11_0 (by rw [← hsv3]; omega), by first | exact Or.inl (by omega) | exact Or.inr (by rw [← hha]; exact s18)⟩) _ _ _ hP hD hS (lv_sub hl [0, 1, 2, 3, 4, 5] rfl)
                  refine lv_if_ne (tgt := 213) hx hb dX8_look_193 (by decide +kernel) (fun c19 => ?_) (fun c19 => ?_)
                  · have f19 := mt (ti_eq (a := z10_0.toInt) (b := 0) rfl (by decide +kernel)).mpr c19
                    refine lv_iconst (v := 1) hx hb dX8_look_213 (by decide +kernel) ?_
                    refine lv_goto (tgt := 218) hx hb dX8_look_214 (by decide +kernel) ?_
                    exact jn11  (1 : Int32) (show 0 ≤ (1 : Int32).toInt ∧ (1 : Int32).toInt ≤ 1 from by decide +kernel) (show Sm (1 : Int32) ((SnP (zX (c 106) (c 108) (i 111).toInt) (hF (c 150)) (fX (c 150)) (bT (c 150) 0) (bT (c 150) 5) (bT (c 150) 2) (sD (c 133) (c 134)) w.toInt (i 111).toInt) y7_4.toInt) from sm_1 (Or.inl (sm_1t hz10_0 (by omega)))) _ _ _ hP hD hS (lv_sub hl [0, 1, 2, 3, 4, 5] rfl)
                  · have f19 := (ti_eq (a := z10_0.toInt) (b := 0) rfl (by decide +kernel)).mp c19
                    refine lv_aload_n hx hb dX8_look_196 rfl (lv_at hl 4 rfl) ?_
                    refine xgT_TG_bright (v := (i7 154)) rfl hx hb hts (fun _ h => List.mem_cons_of_mem _ (List.mem_append_left _ (List.mem_append_left _ (List.mem_append_left _ (List.mem_append_right _ h))))) hown hK hP (hts (.fieldLink RX8 46 "TalePlay$Sight" "bright" "Z") (List.mem_cons_of_mem _ (List.mem_append_left _ (List.mem_append_left _ (List.mem_append_left _ (List.mem_append_left _ (List.mem_append_right _ (List.mem_append_left _ (List.mem_of_getElem? (i := 13) rfl))))))))) dX8_look_197 ?_
                    have rb154_i7 : 0 ≤ (i7 154).toInt ∧ (i7 154).toInt ≤ 1 := hI.1 154
                    refine lv_if_eq (tgt := 217) hx hb dX8_look_200 (by decide +kernel) (fun c20 => ?_) (fun c20 => ?_)
                    · have f20 := (ti_eq (a := (i7 154).toInt) (b := 0) rfl (by decide +kernel)).mp c20
                      refine lv_iconst (v := 0) hx hb dX8_look_217 (by decide +kernel) ?_
                      exact jn11  (0 : Int32) (show 0 ≤ (0 : Int32).toInt ∧ (0 : Int32).toInt ≤ 1 from by decide +kernel) (show Sm (0 : Int32) ((SnP (zX (c 106) (c 108) (i 111).toInt) (hF (c 150)) (fX (c 150)) (bT (c 150) 0) (bT (c 150) 5) (bT (c 150) 2) (sD (c 133) (c 134)) w.toInt (i 111).toInt) y7_4.toInt) from sm_0 (fun h9 => h9.elim (sm_x hz10_0 (by omega)) (fun h8 => sm_x hz7_1 (by omega) h8.1))) _ _ _ hP hD hS (lv_sub hl [0, 1, 2, 3, 4, 5] rfl)
                    · have f20 := mt (ti_eq (a := (i7 154).toInt) (b := 0) rfl (by decide +kernel)).mpr c20
                      refine lv_aload_n hx hb dX8_look_203 rfl (lv_at hl 4 rfl) ?_
                      refine xgT_TG_seen hx hb hts (fun _ h => List.mem_cons_of_mem _ (List.mem_append_left _ (List.mem_append_left _ (List.mem_append_left _ (List.mem_append_right _ h))))) hown hK hP (hts (.fieldLink RX8 9 "TalePlay$Sight" "seen" "[Z") (List.mem_cons_of_mem _ (List.mem_append_left _ (List.mem_append_left _ (List.mem_append_left _ (List.mem_append_left _ (List.mem_append_right _ (List.mem_append_right _ (List.mem_append_left _ (List.mem_of_getElem? (i := 3) rfl)))))))))) dX8_look_204 ?_
                      refine lv_iload hx hb dX8_look_207 (lv_at hl 1 rfl) ?_
                      refine xlT_152 hx hb hK hP (vp_in_iff.mpr (by have h9 : y7_4.toInt = y7_4.toInt := rfl; omega)) dX8_look_209 (fun x21 ex21 => ?_)
                      have rx21 : 0 ≤ x21.toInt ∧ x21.toInt ≤ 1 := by rw [ex21]; exact hI.2 152 _
                      have gx21 : (c7 152 (y7_4 : Int32).toNatClampNeg).toInt = x21.toInt := by rw [ex21]
                      have hsv2 : Sm x21 (V1 (zX (c 106) (c 108) (i 111).toInt) (hF (c 150)) (bT (c 150) 0) (bT (c 150) 5) (sD (c 133) (c 134)) ((1 : Int) ≤ 0) w.toInt y7_4.toInt) := by have h9 := (hz7_0 y7_4.toNatClampNeg (by rw [cl_nn (by omega)]; omega)).2 (by rw [cl_nn (by omega)]; omega); rw [cl_nn (by omega)] at h9; rw [ex21]; exact h9
                      refine lv_if_eq (tgt := 217) hx hb dX8_look_210 (by decide +kernel) (fun c22 => ?_) (fun c22 => ?_)
                      · have f22 := (ti_eq (a := x21.toInt) (b := 0) rfl (by decide +kernel)).mp c22
                        refine lv_iconst (v := 0) hx hb dX8_look_217 (by decide +kernel) ?_
                        exact jn11  (0 : Int32) (show 0 ≤ (0 : Int32).toInt ∧ (0 : Int32).toInt ≤ 1 from by decide +kernel) (show Sm (0 : Int32) ((SnP (zX (c 106) (c 108) (i 111).toInt) (hF (c 150)) (fX (c 150)) (bT (c 150) 0) (bT (c 150) 5) (bT (c 150) 2) (sD (c 133) (c 134)) w.toInt (i 111).toInt) y7_4.toInt) from sm_0 (fun h9 => h9.elim (sm_x hz10_0 (by omega)) (fun h8 => sm_x hsv2 (by omega) h8.2))) _ _ _ hP hD hS (lv_sub hl [0, 1, 2, 3, 4, 5] rfl)
                      · have f22 := mt (ti_eq (a := x21.toInt) (b := 0) rfl (by decide +kernel)).mpr c22
                        refine lv_iconst (v := 1) hx hb dX8_look_213 (by decide +kernel) ?_
                        refine lv_goto (tgt := 218) hx hb dX8_look_214 (by decide +kernel) ?_
                        exact jn11  (1 : Int32) (show 0 ≤ (1 : Int32).toInt ∧ (1 : Int32).toInt ≤ 1 from by decide +kernel) (show Sm (1 : Int32) ((SnP (zX (c 106) (c 108) (i 111).toInt) (hF (c 150)) (fX (c 150)) (bT (c 150) 0) (bT (c 150) 5) (bT (c 150) 2) (sD (c 133) (c 134)) w.toInt (i 111).toInt) y7_4.toInt) from sm_1 (Or.inr ⟨sm_1t hz7_1 (by omega), sm_1t hsv2 (by omega)⟩)) _ _ _ hP hD hS (lv_sub hl [0, 1, 2, 3, 4, 5] rfl)
                refine lv_if_ne (tgt := 178) hx hb dX8_look_161 (by decide +kernel) (fun c23 => ?_) (fun c23 => ?_)
                · have f23 := mt (ti_eq (a := r9.toInt) (b := 0) rfl (by decide +kernel)).mpr c23
                  have s23 := sm_t hr9_0 c23
                  refine lv_iconst (v := 1) hx hb dX8_look_178 (by decide +kernel) ?_
                  refine lv_goto (tgt := 183) hx hb dX8_look_179 (by decide +kernel) ?_
                  exact jn10  (1 : Int32) (show 0 ≤ (1 : Int32).toInt ∧ (1 : Int32).toInt ≤ 1 from by decide +kernel) (show Sm (1 : Int32) (Own (hF (c 150)) (fX (c 150)) w.toInt y7_4.toInt) from sm_1 ((Own_e (ce := c 150) (x := y7_4.toInt) (p := w.toInt) (by omega) (by omega)).mpr (by first | exact Or.inl s23 | exact Or.inr s23))) _ _ _ hP hD hS (lv_sub hl [0, 1, 2, 3, 4] rfl)
                · have f23 := (ti_eq (a := r9.toInt) (b := 0) rfl (by decide +kernel)).mp c23
                  have s23 := sm_f hr9_0 c23
                  refine lv_aload_n hx hb dX8_look_164 rfl (lv_at hl 3 rfl) ?_
                  refine xgT_TG_scene hx hb hts (fun _ h => List.mem_cons_of_mem _ (List.mem_append_left _ (List.mem_append_left _ (List.mem_append_left _ (List.mem_append_right _ h))))) hown hK hP (hts (.fieldLink RX8 26 "TalePlay$Sight" "scene" "LTalePlay$Scene;") (List.mem_cons_of_mem _ (List.mem_append_left _ (List.mem_append_left _ (List.mem_append_left _ (List.mem_append_left _ (List.mem_append_left _ (List.mem_of_getElem? (i := 5) rfl)))))))) dX8_look_165 ?_
                  refine lv_iload hx hb dX8_look_168 (lv_at hl 0 rfl) ?_
                  refine lv_iconst (v := 3) hx hb dX8_look_170 (by decide +kernel) ?_
                  refine lv_iload_n hx hb dX8_look_171 rfl (lv_at hl 4 rfl) ?_
                  refine ro_calli (va_runV (As := [.int y7_4, .int 3, .int w]) (rest := []) ⟨hx, hb, hml, hown, hts⟩ (x_X6_lies_eTS l D H.size .null a t i7 q7 c7 d7 y7_4 3 w hI (show 0 ≤ y7_4.toInt ∧ y7_4.toInt ≤ 29 from by have h91 : (3 : Int32).toInt = 3 := (by decide +kernel); omega) (show 0 ≤ 3 ∧ 3 ≤ 7 from by decide +kernel) (show 0 ≤ w.toInt ∧ w.toInt ≤ 31 from by have h91 : (3 : Int32).toInt = 3 := (by decide +kernel); omega)) (cwV 3 hts gm_X8_look_eTG_X6_lies_eTS_58 rfl rfl rfl (by decide +kernel) ⟨Nat.le_of_ble_eq_true rfl, Nat.le_of_ble_eq_true rfl⟩) (yA_V hN (xZ_k hZ hS hA) (xkT_P1 hK) (xuT_P1 (sk := sk) hP) (ci := 6) (q0 := 0) rfl rfl) rfl rfl hl.1 rfl (lv_room (Nat.le_of_ble_eq_true rfl)) dX8_look_172 ⟨Nat.le_of_ble_eq_true rfl, Nat.le_of_ble_eq_true rfl⟩) hS hA hP (fun r24 u24 H locs hw24 hP hS => ?_)
                  have hw24 : ((0 ≤ r24.toInt ∧ r24.toInt ≤ 1) ∧ (Sm r24 ((c7 150 y7_4.toInt.toNat).toInt % 256 = w.toInt * 8 + 3))) := hw24
                  obtain ⟨hw24, hr24_0⟩ := hw24
                  have hr24_0 : Sm r24 ((c 150 y7_4.toInt.toNat).toInt % 256 = w.toInt * 8 + 3) := by have h9 := hr24_0; rw [show c7 150 = c 150 from hfc 150 (by decide +kernel)] at h9; exact h9
                  refine lv_if_eq (tgt := 182) hx hb dX8_look_175 (by decide +kernel) (fun c25 => ?_) (fun c25 => ?_)
                  · have f25 := (ti_eq (a := r24.toInt) (b := 0) rfl (by decide +kernel)).mp c25
                    have s25 := sm_f hr24_0 c25
                    refine lv_iconst (v := 0) hx hb dX8_look_182 (by decide +kernel) ?_
                    exact jn10  (0 : Int32) (show 0 ≤ (0 : Int32).toInt ∧ (0 : Int32).toInt ≤ 1 from by decide +kernel) (show Sm (0 : Int32) (Own (hF (c 150)) (fX (c 150)) w.toInt y7_4.toInt) from sm_0 (fun h9 => ((Own_e (ce := c 150) (x := y7_4.toInt) (p := w.toInt) (by omega) (by omega)).mp h9).elim s23 s25)) _ _ _ hP hD hS (lv_sub hl [0, 1, 2, 3, 4] rfl)
                  · have f25 := mt (ti_eq (a := r24.toInt) (b := 0) rfl (by decide +kernel)).mpr c25
                    have s25 := sm_t hr24_0 c25
                    refine lv_iconst (v := 1) hx hb dX8_look_178 (by decide +kernel) ?_
                    refine lv_goto (tgt := 183) hx hb dX8_look_179 (by decide +kernel) ?_
                    exact jn10  (1 : Int32) (show 0 ≤ (1 : Int32).toInt ∧ (1 : Int32).toInt ≤ 1 from by decide +kernel) (show Sm (1 : Int32) (Own (hF (c 150)) (fX (c 150)) w.toInt y7_4.toInt) from sm_1 ((Own_e (ce := c 150) (x := y7_4.toInt) (p := w.toInt) (by omega) (by omega)).mpr (by first | exact Or.inl s25 | exact Or.inr s25))) _ _ _ hP hD hS (lv_sub hl [0, 1, 2, 3, 4] rfl)
          exact lp7 _ i5 q5 c5 d5 (0 : Int32) hI (fr_w hfi (by decide +kernel)) (fr_w hfc (by decide +kernel)) (show 0 ≤ (0 : Int32).toInt ∧ (0 : Int32).toInt ≤ 30 ∧ (0 : Int32).toInt ≤ (i 111).toInt from by have h50 : (0 : Int32).toInt = 0 := (by decide +kernel); omega) (show LkB (V1 (zX (c 106) (c 108) (i 111).toInt) (hF (c 150)) (bT (c 150) 0) (bT (c 150) 5) (sD (c 133) (c 134)) ((1 : Int) ≤ 0) w.toInt) (SnP (zX (c 106) (c 108) (i 111).toInt) (hF (c 150)) (fX (c 150)) (bT (c 150) 0) (bT (c 150) 5) (bT (c 150) 2) (sD (c 133) (c 134)) w.toInt (i 111).toInt) (RcP (zX (c 106) (c 108) (i 111).toInt) (hF (c 150)) (fX (c 150)) (bT (c 150) 0) (bT (c 150) 5) (bT (c 150) 2) (sD (c 133) (c 134)) w.toInt (i 111).toInt) (c5 152) (c5 153) (0 : Int32).toInt (i 111).toInt from LkB_0 (by decide +kernel) (LkA_m hz5_0 (by omega))) (show Sm ((i5 154) : Int32) (BrM (zX (c 106) (c 108) (i 111).toInt) (hF (c 150)) (bT (c 150) 0) (bT (c 150) 5) (bT (c 150) 2) (sD (c 133) (c 134)) w.toInt (i 111).toInt) from by have h9 := hz5_1; rw [show y5_4.toInt = (i 111).toInt by omega] at h9; exact h9) (Nat.lt_succ_self _) _ _ _ hP hD hS (lv_sub hl [0, 1, 2, 3, 4] rfl)
        · have f6 := mt (ti_le (a := (i5 111).toInt) (b := y5_4.toInt) rfl rfl).mpr c6
          refine lv_aload_n hx hb dX8_look_61 rfl (lv_at hl 3 rfl) ?_
          refine xgT_TG_seen hx hb hts (fun _ h => List.mem_cons_of_mem _ (List.mem_append_left _ (List.mem_append_left _ (List.mem_append_left _ (List.mem_append_right _ h))))) hown hK hP (hts (.fieldLink RX8 9 "TalePlay$Sight" "seen" "[Z") (List.mem_cons_of_mem _ (List.mem_append_left _ (List.mem_append_left _ (List.mem_append_left _ (List.mem_append_left _ (List.mem_append_right _ (List.mem_append_right _ (List.mem_append_left _ (List.mem_of_getElem? (i := 3) rfl)))))))))) dX8_look_62 ?_
          refine lv_iload hx hb dX8_look_65 (lv_at hl 0 rfl) ?_
          refine lv_iload hx hb dX8_look_67 (lv_at hl 0 rfl) ?_
          refine lv_iload_n hx hb dX8_look_69 rfl (lv_at hl 4 rfl) ?_
          have jn26 : ∀ (z26_0 : Int32), (0 ≤ z26_0.toInt ∧ z26_0.toInt ≤ 1) → (Sm z26_0 (V1 (zX (c 106) (c 108) (i 111).toInt) (hF (c 150)) (bT (c 150) 0) (bT (c 150) 5) (sD (c 133) (c 134)) ((1 : Int) ≤ 0) w.toInt y5_4.toInt)) → ∀ (H : Heap) (locs : List Loc) (ls : Array Slot), va_P D vwCl (xwT sk a t i5 q5 c5 d5) H → va_D A (xwT sk a t i5 q5 c5 d5) → va_S A s.heap H locs → lv_has ls 6 [(4, .int y5_4), (3, .int r2), (2, .int r1), (0, .ref (a 151)), (1, .int w)] → W p l e (headSpec wm_X8_look_eTG ({ frames := 3, cells := 0, slots := 0, locals := 69 })).room s m ([.ref (a 151), .int w] : List Value).toArray below meth cd H locs 0 0 (MQ below (va_Qv (fun (u : MS) => True ∧ xInv u.1 u.2.2.1 ∧ (∀ k, k ∉ ([154] : List Nat) → u.1 k = i k) ∧ (∀ k, k ∉ ([152, 153] : List Nat) → u.2.2.1 k = c k) ∧ (LkR (zX (c 106) (c 108) (i 111).toInt) (hF (c 150)) (fX (c 150)) (bT (c 150) 0) (bT (c 150) 5) (bT (c 150) 2) (sD (c 133) (c 134)) w.toInt (i 111).toInt (u.2.2.1 152) (u.2.2.1 153) (u.1 154))) (oC D A (fun u : MS => xwT sk a t u.1 u.2.1 u.2.2.1 u.2.2.2) (fun _ => [])) A) ([.ref (a 151), .int w] : List Value).toArray s 0 0 A) (F0 m 89 ls [.int z26_0, .int y5_4, .ref (a 152)]) := by
            intro z26_0 hs26_0 hz26_0 H locs ls hP hD hS hl
            refine xsT_152 hx hb hK hP hD hS (vp_in_iff.mpr (by have h9 : y5_4.toInt = y5_4.toInt := rfl; omega)) (nb_z (show 0 ≤ (z26_0 : Int32).toInt ∧ (z26_0 : Int32).toInt ≤ 1 from by omega)) dX8_look_89 (fun H locs hP hD hS => ?_)
            have hI := xInv_c hI (k := 152) (j := (y5_4 : Int32).toNatClampNeg) (x := z26_0) (show 0 ≤ (z26_0 : Int32).toInt ∧ (z26_0 : Int32).toInt ≤ 1 from by omega)
            have hfc := fr_c hfc (k := 152) (j := (y5_4 : Int32).toNatClampNeg) (x := z26_0) (by decide +kernel)
            refine lv_aload_n hx hb dX8_look_90 rfl (lv_at hl 3 rfl) ?_
            refine lv_aload_n hx hb dX8_look_91 rfl (lv_at hl 3 rfl) ?_
            refine xgT_TG_bright (v := (i5 154)) rfl hx hb hts (fun _ h => List.mem_cons_of_mem _ (List.mem_append_left _ (List.mem_append_left _ (List.mem_append_left _ (List.mem_append_right _ h))))) hown hK hP (hts (.fieldLink RX8 46 "TalePlay$Sight" "bright" "Z") (List.mem_cons_of_mem _ (List.mem_append_left _ (List.mem_append_left _ (List.mem_append_left _ (List.mem_append_left _ (List.mem_append_right _ (List.mem_append_left _ (List.mem_of_getElem? (i := 13) rfl))))))))) dX8_look_92 ?_
            have rb154_i5 : 0 ≤ (i5 154).toInt ∧ (i5 154).toInt ≤ 1 := hI.1 154
            have jn27 : ∀ (z27_0 : Int32), (0 ≤ z27_0.toInt ∧ z27_0.toInt ≤ 1) → (Sm z27_0 (((i5 154) : Int32).toInt = 1 ∨ (V1 (zX (c 106) (c 108) (i 111).toInt) (hF (c 150)) (bT (c 150) 0) (bT (c 150) 5) (sD (c 133) (c 134)) ((1 : Int) ≤ 0) w.toInt y5_4.toInt ∧ (bT (c 150) 2) y5_4.toInt))) → ∀ (H : Heap) (locs : List Loc) (ls : Array Slot), va_P D vwCl (xwT sk a t i5 q5 (updA c5 152 (y5_4 : Int32).toNatClampNeg z26_0) d5) H → va_D A (xwT sk a t i5 q5 (updA c5 152 (y5_4 : Int32).toNatClampNeg z26_0) d5) → va_S A s.heap H locs → lv_has ls 6 [(4, .int y5_4), (3, .int r2), (2, .int r1), (0, .ref (a 151)), (1, .int w)] → W p l e (headSpec wm_X8_look_eTG ({ frames := 3, cells := 0, slots := 0, locals := 69 })).room s m ([.ref (a 151), .int w] : List Value).toArray below meth cd H locs 0 0 (MQ below (va_Qv (fun (u : MS) => True ∧ xInv u.1 u.2.2.1 ∧ (∀ k, k ∉ ([154] : List Nat) → u.1 k = i k) ∧ (∀ k, k ∉ ([152, 153] : List Nat) → u.2.2.1 k = c k) ∧ (LkR (zX (c 106) (c 108) (i 111).toInt) (hF (c 150)) (fX (c 150)) (bT (c 150) 0) (bT (c 150) 5) (bT (c 150) 2) (sD (c 133) (c 134)) w.toInt (i 111).toInt (u.2.2.1 152) (u.2.2.1 153) (u.1 154))) (oC D A (fun u : MS => xwT sk a t u.1 u.2.1 u.2.2.1 u.2.2.2) (fun _ => [])) A) ([.ref (a 151), .int w] : List Value).toArray s 0 0 A) (F0 m 126 ls [.int z27_0, .ref (a 151)]) := by
              intro z27_0 hs27_0 hz27_0 H locs ls hP hD hS hl
              refine xpT_TG_bright hx hb hts (fun _ h => List.mem_cons_of_mem _ (List.mem_append_left _ (List.mem_append_left _ (List.mem_append_left _ (List.mem_append_right _ h))))) hown hK hP hD hS (hts (.fieldLink RX8 46 "TalePlay$Sight" "bright" "Z") (List.mem_cons_of_mem _ (List.mem_append_left _ (List.mem_append_left _ (List.mem_append_left _ (List.mem_append_left _ (List.mem_append_right _ (List.mem_append_left _ (List.mem_of_getElem? (i := 13) rfl))))))))) (nb_n (show 0 ≤ z27_0.toInt ∧ z27_0.toInt ≤ 1 from by omega)) (nb_f (show 0 ≤ z27_0.toInt ∧ z27_0.toInt ≤ 1 from by omega)) dX8_look_126 (fun H locs hP hD hS => ?_)
              have hI := xInv_i hI (k := 154) (v := z27_0) (show 0 ≤ (z27_0 : Int32).toInt ∧ (z27_0 : Int32).toInt ≤ 1 from by omega)
              have hfi := fr_i hfi (k := 154) (v := z27_0) (by decide +kernel)
              obtain ⟨x28, ex28⟩ : ∃ y : Int32, y = y5_4 + 1 := ⟨_, rfl⟩
              have tx28 := ti_add (a := y5_4.toInt) (b := 1) ex28 rfl (by decide +kernel) (by omega) (by omega)
              refine lv_iinc (v := x28) (lv' := [(4, .int x28), (3, .int r2), (2, .int r1), (0, .ref (a 151)), (1, .int w)]) hx hb dX8_look_129 hl (k := 0) rfl (by rw [ex28]; rfl) (by decide +kernel) rfl (fun ls hl => ?_)
              refine lv_goto (tgt := 49) hx hb dX8_look_132 (by decide +kernel) ?_
              exact ih5 (upd i5 154 z27_0) q5 (updA c5 152 (y5_4 : Int32).toNatClampNeg z26_0) d5 x28 hI (fr_w hfi (by decide +kernel)) (fr_w hfc (by decide +kernel)) (show 0 ≤ x28.toInt ∧ x28.toInt ≤ 30 ∧ x28.toInt ≤ (i 111).toInt from by have h50 : x28.toInt = (y5_4.toInt + 1) := tx28; omega) (show LkA (V1 (zX (c 106) (c 108) (i 111).toInt) (hF (c 150)) (bT (c 150) 0) (bT (c 150) 5) (sD (c 133) (c 134)) ((1 : Int) ≤ 0) w.toInt) ((updA c5 152 (y5_4 : Int32).toNatClampNeg z26_0) 152) x28.toInt from LkA_s hz5_0 (by omega) tx28 hz26_0) (show Sm (z27_0 : Int32) (BrM (zX (c 106) (c 108) (i 111).toInt) (hF (c 150)) (bT (c 150) 0) (bT (c 150) 5) (bT (c 150) 2) (sD (c 133) (c 134)) w.toInt x28.toInt) from by rw [show x28.toInt = y5_4.toInt + 1 from tx28]; exact BrM_s hz5_1 (by omega) hz27_0) (by have h50 : x28.toInt = (y5_4.toInt + 1) := tx28; omega) _ _ _ hP hD hS (lv_sub hl [0, 1, 2, 3, 4] rfl)
            refine lv_if_ne (tgt := 121) hx hb dX8_look_95 (by decide +kernel) (fun c29 => ?_) (fun c29 => ?_)
            · have f29 := mt (ti_eq (a := (i5 154).toInt) (b := 0) rfl (by decide +kernel)).mpr c29
              refine lv_iconst (v := 1) hx hb dX8_look_121 (by decide +kernel) ?_
              refine lv_goto (tgt := 126) hx hb dX8_look_122 (by decide +kernel) ?_
              exact jn27  (1 : Int32) (show 0 ≤ (1 : Int32).toInt ∧ (1 : Int32).toInt ≤ 1 from by decide +kernel) (show Sm (1 : Int32) (((i5 154) : Int32).toInt = 1 ∨ (V1 (zX (c 106) (c 108) (i 111).toInt) (hF (c 150)) (bT (c 150) 0) (bT (c 150) 5) (sD (c 133) (c 134)) ((1 : Int) ≤ 0) w.toInt y5_4.toInt ∧ (bT (c 150) 2) y5_4.toInt)) from sm_1 (Or.inl (by omega))) _ _ _ hP hD hS (lv_sub hl [0, 1, 2, 3, 4] rfl)
            · have f29 := (ti_eq (a := (i5 154).toInt) (b := 0) rfl (by decide +kernel)).mp c29
              refine lv_aload_n hx hb dX8_look_98 rfl (lv_at hl 3 rfl) ?_
              refine xgT_TG_seen hx hb hts (fun _ h => List.mem_cons_of_mem _ (List.mem_append_left _ (List.mem_append_left _ (List.mem_append_left _ (List.mem_append_right _ h))))) hown hK hP (hts (.fieldLink RX8 9 "TalePlay$Sight" "seen" "[Z") (List.mem_cons_of_mem _ (List.mem_append_left _ (List.mem_append_left _ (List.mem_append_left _ (List.mem_append_left _ (List.mem_append_right _ (List.mem_append_right _ (List.mem_append_left _ (List.mem_of_getElem? (i := 3) rfl)))))))))) dX8_look_99 ?_
              refine lv_iload hx hb dX8_look_102 (lv_at hl 0 rfl) ?_
              refine xlT_152 hx hb hK hP (vp_in_iff.mpr (by have h9 : y5_4.toInt = y5_4.toInt := rfl; omega)) dX8_look_104 (fun x30 ex30 => ?_)
              have rx30 : 0 ≤ x30.toInt ∧ x30.toInt ≤ 1 := by rw [ex30]; exact hI.2 152 _
              have gx30 : ((updA c5 152 (y5_4 : Int32).toNatClampNeg z26_0) 152 (y5_4 : Int32).toNatClampNeg).toInt = x30.toInt := by rw [ex30]
              have hsv : x30 = z26_0 := by rw [ex30]; show upd (c5 152) (y5_4 : Int32).toNatClampNeg z26_0 (y5_4 : Int32).toNatClampNeg = z26_0; exact pk_us
              refine lv_if_eq (tgt := 125) hx hb dX8_look_105 (by decide +kernel) (fun c31 => ?_) (fun c31 => ?_)
              · have f31 := (ti_eq (a := x30.toInt) (b := 0) rfl (by decide +kernel)).mp c31
                refine lv_iconst (v := 0) hx hb dX8_look_125 (by decide +kernel) ?_
                exact jn27  (0 : Int32) (show 0 ≤ (0 : Int32).toInt ∧ (0 : Int32).toInt ≤ 1 from by decide +kernel) (show Sm (0 : Int32) (((i5 154) : Int32).toInt = 1 ∨ (V1 (zX (c 106) (c 108) (i 111).toInt) (hF (c 150)) (bT (c 150) 0) (bT (c 150) 5) (sD (c 133) (c 134)) ((1 : Int) ≤ 0) w.toInt y5_4.toInt ∧ (bT (c 150) 2) y5_4.toInt)) from sm_0 (fun h9 => h9.elim (fun h8 => by omega) (fun h8 => sm_x hz26_0 (by rw [← hsv]; omega) h8.1))) _ _ _ hP hD hS (lv_sub hl [0, 1, 2, 3, 4] rfl)
              · have f31 := mt (ti_eq (a := x30.toInt) (b := 0) rfl (by decide +kernel)).mpr c31
                refine lv_aload_n hx hb dX8_look_108 rfl (lv_at hl 3 rfl) ?_
                refine xgT_TG_scene hx hb hts (fun _ h => List.mem_cons_of_mem _ (List.mem_append_left _ (List.mem_append_left _ (List.mem_append_left _ (List.mem_append_right _ h))))) hown hK hP (hts (.fieldLink RX8 26 "TalePlay$Sight" "scene" "LTalePlay$Scene;") (List.mem_cons_of_mem _ (List.mem_append_left _ (List.mem_append_left _ (List.mem_append_left _ (List.mem_append_left _ (List.mem_append_left _ (List.mem_of_getElem? (i := 5) rfl)))))))) dX8_look_109 ?_
                refine lv_iload hx hb dX8_look_112 (lv_at hl 0 rfl) ?_
                refine lv_iconst (v := 2) hx hb dX8_look_114 (by decide +kernel) ?_
                refine ro_calli (va_runV (As := [.int y5_4, .int 2]) (rest := [.ref (a 151)]) ⟨hx, hb, hml, hown, hts⟩ (x_X6_has_eTS l D H.size .null a t i5 q5 (updA c5 152 (y5_4 : Int32).toNatClampNeg z26_0) d5 y5_4 2 hI (show 0 ≤ y5_4.toInt ∧ y5_4.toInt ≤ 29 from by have h91 : (2 : Int32).toInt = 2 := (by decide +kernel); omega) (show 0 ≤ 2 ∧ 2 ≤ 5 from by decide +kernel)) (cwV 2 hts gm_X8_look_eTG_X6_has_eTS_40 rfl rfl rfl (by decide +kernel) ⟨Nat.le_of_ble_eq_true rfl, Nat.le_of_ble_eq_true rfl⟩) (yA_V hN (xZ_k hZ hS hA) (xkT_P1 hK) (xuT_P1 (sk := sk) hP) (ci := 6) (q0 := 0) rfl rfl) rfl rfl hl.1 rfl (lv_room (Nat.le_of_ble_eq_true rfl)) dX8_look_115 ⟨Nat.le_of_ble_eq_true rfl, Nat.le_of_ble_eq_true rfl⟩) hS hA hP (fun r32 u32 H locs hw32 hP hS => ?_)
                have hw32 : ((0 ≤ r32.toInt ∧ r32.toInt ≤ 1) ∧ (Sm r32 (hbt ((updA c5 152 (y5_4 : Int32).toNatClampNeg z26_0) 150 y5_4.toInt.toNat) 2))) := hw32
                obtain ⟨hw32, hr32_0⟩ := hw32
                have hr32_0 : Sm r32 (hbt (c 150 y5_4.toInt.toNat) 2) := by have h9 := hr32_0; rw [show (updA c5 152 (y5_4 : Int32).toNatClampNeg z26_0) 150 = c 150 from hfc 150 (by decide +kernel)] at h9; exact h9
                refine lv_if_eq (tgt := 125) hx hb dX8_look_118 (by decide +kernel) (fun c33 => ?_) (fun c33 => ?_)
                · have f33 := (ti_eq (a := r32.toInt) (b := 0) rfl (by decide +kernel)).mp c33
                  have s33 := sm_f hr32_0 c33
                  refine lv_iconst (v := 0) hx hb dX8_look_125 (by decide +kernel) ?_
                  exact jn27  (0 : Int32) (show 0 ≤ (0 : Int32).toInt ∧ (0 : Int32).toInt ≤ 1 from by decide +kernel) (show Sm (0 : Int32) (((i5 154) : Int32).toInt = 1 ∨ (V1 (zX (c 106) (c 108) (i 111).toInt) (hF (c 150)) (bT (c 150) 0) (bT (c 150) 5) (sD (c 133) (c 134)) ((1 : Int) ≤ 0) w.toInt y5_4.toInt ∧ (bT (c 150) 2) y5_4.toInt)) from sm_0 (fun h9 => h9.elim (fun h8 => by omega) (fun h8 => s33 h8.2))) _ _ _ hP hD hS (lv_sub hl [0, 1, 2, 3, 4] rfl)
                · have f33 := mt (ti_eq (a := r32.toInt) (b := 0) rfl (by decide +kernel)).mpr c33
                  have s33 := sm_t hr32_0 c33
                  refine lv_iconst (v := 1) hx hb dX8_look_121 (by decide +kernel) ?_
                  refine lv_goto (tgt := 126) hx hb dX8_look_122 (by decide +kernel) ?_
                  exact jn27  (1 : Int32) (show 0 ≤ (1 : Int32).toInt ∧ (1 : Int32).toInt ≤ 1 from by decide +kernel) (show Sm (1 : Int32) (((i5 154) : Int32).toInt = 1 ∨ (V1 (zX (c 106) (c 108) (i 111).toInt) (hF (c 150)) (bT (c 150) 0) (bT (c 150) 5) (sD (c 133) (c 134)) ((1 : Int) ≤ 0) w.toInt y5_4.toInt ∧ (bT (c 150) 2) y5_4.toInt)) from sm_1 (Or.inr ⟨sm_1t hz26_0 (by rw [← hsv]; omega), s33⟩)) _ _ _ hP hD hS (lv_sub hl [0, 1, 2, 3, 4] rfl)
          refine lv_icmp_eq (tgt := 84) hx hb dX8_look_70 (by decide +kernel) (fun c34 => ?_) (fun c34 => ?_)
          · have f34 := (ti_eq (a := y5_4.toInt) (b := w.toInt) rfl rfl).mp c34
            refine lv_iconst (v := 1) hx hb dX8_look_84 (by decide +kernel) ?_
            refine lv_goto (tgt := 89) hx hb dX8_look_85 (by decide +kernel) ?_
            exact jn26  (1 : Int32) (show 0 ≤ (1 : Int32).toInt ∧ (1 : Int32).toInt ≤ 1 from by decide +kernel) (show Sm (1 : Int32) (V1 (zX (c 106) (c 108) (i 111).toInt) (hF (c 150)) (bT (c 150) 0) (bT (c 150) 5) (sD (c 133) (c 134)) ((1 : Int) ≤ 0) w.toInt y5_4.toInt) from sm_1 (by first | exact Or.inl (by omega))) _ _ _ hP hD hS (lv_sub hl [0, 1, 2, 3, 4] rfl)
          · have f34 := mt (ti_eq (a := y5_4.toInt) (b := w.toInt) rfl rfl).mpr c34
            refine lv_aload_n hx hb dX8_look_73 rfl (lv_at hl 3 rfl) ?_
            refine lv_iload hx hb dX8_look_74 (lv_at hl 0 rfl) ?_
            refine lv_iload_n hx hb dX8_look_76 rfl (lv_at hl 2 rfl) ?_
            refine lv_iconst (v := 0) hx hb dX8_look_77 (by decide +kernel) ?_
            refine ro_calli (va_runV (As := [.int y5_4, .int r1, .int 0]) (rest := [.int y5_4, .ref (a 152)]) ⟨hx, hb, hml, hown, hts⟩ (x_X8_isInView_eTG l D H.size sk a t i5 q5 c5 d5 y5_4 r1 0 hI (show 0 ≤ y5_4.toInt ∧ y5_4.toInt ≤ 29 from by have h92 : (0 : Int32).toInt = 0 := (by decide +kernel); omega) (show r1.toInt = -9 ∨ (0 ≤ r1.toInt ∧ r1.toInt ≤ 29) from by have h92 : (0 : Int32).toInt = 0 := (by decide +kernel); omega) (show 0 ≤ 0 ∧ 0 ≤ 1 from by decide +kernel)) (cwV 3 hts gm_X8_look_eTG_X8_isInView_eTG_54 rfl rfl rfl (by decide +kernel) ⟨Nat.le_of_ble_eq_true rfl, Nat.le_of_ble_eq_true rfl⟩) (yA_V hN (xZ_k hZ hS hA) hK hP (ci := 8) (q0 := 39) rfl rfl) rfl rfl hl.1 rfl (lv_room (Nat.le_of_ble_eq_true rfl)) dX8_look_78 ⟨Nat.le_of_ble_eq_true rfl, Nat.le_of_ble_eq_true rfl⟩) hS hA hP (fun r35 u35 H locs hw35 hP hS => ?_)
            have hw35 : ((0 ≤ r35.toInt ∧ r35.toInt ≤ 1) ∧ (Sm r35 (Vw (zX (c5 106) (c5 108) (i5 111).toInt) (hF (c5 150)) (bT (c5 150) 0) (bT (c5 150) 5) (sD (c5 133) (c5 134)) ((1 : Int) ≤ 0) r1.toInt y5_4.toInt))) := hw35
            obtain ⟨hw35, hr35_0⟩ := hw35
            have hr35_0 : Sm r35 (Vw (zX (c 106) (c 108) (i 111).toInt) (hF (c 150)) (bT (c 150) 0) (bT (c 150) 5) (sD (c 133) (c 134)) ((1 : Int) ≤ 0) r1.toInt y5_4.toInt) := by have h9 := hr35_0; rw [show c5 106 = c 106 from hfc 106 (by decide +kernel), show c5 108 = c 108 from hfc 108 (by decide +kernel), show c5 133 = c 133 from hfc 133 (by decide +kernel), show c5 134 = c 134 from hfc 134 (by decide +kernel), show c5 150 = c 150 from hfc 150 (by decide +kernel), show i5 111 = i 111 from hfi 111 (by decide +kernel)] at h9; exact h9
            refine lv_if_eq (tgt := 88) hx hb dX8_look_81 (by decide +kernel) (fun c36 => ?_) (fun c36 => ?_)
            · have f36 := (ti_eq (a := r35.toInt) (b := 0) rfl (by decide +kernel)).mp c36
              have s36 := sm_f hr35_0 c36
              refine lv_iconst (v := 0) hx hb dX8_look_88 (by decide +kernel) ?_
              exact jn26  (0 : Int32) (show 0 ≤ (0 : Int32).toInt ∧ (0 : Int32).toInt ≤ 1 from by decide +kernel) (show Sm (0 : Int32) (V1 (zX (c 106) (c 108) (i 111).toInt) (hF (c 150)) (bT (c 150) 0) (bT (c 150) 5) (sD (c 133) (c 134)) ((1 : Int) ≤ 0) w.toInt y5_4.toInt) from sm_0 (fun h9 => h9.elim (fun h8 => by omega) (fun h8 => by rw [← hsh] at h8; exact s36 h8))) _ _ _ hP hD hS (lv_sub hl [0, 1, 2, 3, 4] rfl)
            · have f36 := mt (ti_eq (a := r35.toInt) (b := 0) rfl (by decide +kernel)).mpr c36
              have s36 := sm_t hr35_0 c36
              refine lv_iconst (v := 1) hx hb dX8_look_84 (by decide +kernel) ?_
              refine lv_goto (tgt := 89) hx hb dX8_look_85 (by decide +kernel) ?_
              exact jn26  (1 : Int32) (show 0 ≤ (1 : Int32).toInt ∧ (1 : Int32).toInt ≤ 1 from by decide +kernel) (show Sm (1 : Int32) (V1 (zX (c 106) (c 108) (i 111).toInt) (hF (c 150)) (bT (c 150) 0) (bT (c 150) 5) (sD (c 133) (c 134)) ((1 : Int) ≤ 0) w.toInt y5_4.toInt) from sm_1 (by first | exact Or.inl (by omega) | exact Or.inr (by rw [← hsh]; exact s36))) _ _ _ hP hD hS (lv_sub hl [0, 1, 2, 3, 4] rfl)
    exact lp5 _ (upd i 154 z4_0) q c d (0 : Int32) hI (fr_w hfi (by decide +kernel)) (fr_w hfc (by decide +kernel)) (show 0 ≤ (0 : Int32).toInt ∧ (0 : Int32).toInt ≤ 30 ∧ (0 : Int32).toInt ≤ (i 111).toInt from by have h50 : (0 : Int32).toInt = 0 := (by decide +kernel); omega) (show LkA (V1 (zX (c 106) (c 108) (i 111).toInt) (hF (c 150)) (bT (c 150) 0) (bT (c 150) 5) (sD (c 133) (c 134)) ((1 : Int) ≤ 0) w.toInt) (c 152) (0 : Int32).toInt from LkA_0 (by decide +kernel)) (show Sm (z4_0 : Int32) (BrM (zX (c 106) (c 108) (i 111).toInt) (hF (c 150)) (bT (c 150) 0) (bT (c 150) 5) (bT (c 150) 2) (sD (c 133) (c 134)) w.toInt (0 : Int32).toInt) from BrM_0 (by decide +kernel) hz4_0) (Nat.lt_succ_self _) _ _ _ hP hD hS (lv_sub hl [0, 1, 2, 3, 4] rfl)
  refine lv_if_ne (tgt := 42) hx hb dX8_look_23 (by decide +kernel) (fun c37 => ?_) (fun c37 => ?_)
  · have f37 := mt (ti_eq (a := r3.toInt) (b := 0) rfl (by decide +kernel)).mpr c37
    refine lv_iconst (v := 0) hx hb dX8_look_42 (by decide +kernel) ?_
    exact jn4  (0 : Int32) (show 0 ≤ (0 : Int32).toInt ∧ (0 : Int32).toInt ≤ 1 from by decide +kernel) (show Sm (0 : Int32) ((zX (c 106) (c 108) (i 111).toInt) (shl (zX (c 106) (c 108) (i 111).toInt) (hF (c 150)) (bT (c 150) 0) (bT (c 150) 5) ((1 : Int) ≤ 0) w.toInt) = 0 ∧ (bT (c 150) 2) (shl (zX (c 106) (c 108) (i 111).toInt) (hF (c 150)) (bT (c 150) 0) (bT (c 150) 5) ((1 : Int) ≤ 0) w.toInt)) from sm_0 (fun h9 => by have h8 := h9.1; omega)) _ _ _ hP hD hS (lv_sub hl [0, 1, 2, 3] rfl)
  · have f37 := (ti_eq (a := r3.toInt) (b := 0) rfl (by decide +kernel)).mp c37
    refine lv_aload_n hx hb dX8_look_26 rfl (lv_at hl 2 rfl) ?_
    refine xgT_TG_scene hx hb hts (fun _ h => List.mem_cons_of_mem _ (List.mem_append_left _ (List.mem_append_left _ (List.mem_append_left _ (List.mem_append_right _ h))))) hown hK hP (hts (.fieldLink RX8 26 "TalePlay$Sight" "scene" "LTalePlay$Scene;") (List.mem_cons_of_mem _ (List.mem_append_left _ (List.mem_append_left _ (List.mem_append_left _ (List.mem_append_left _ (List.mem_append_left _ (List.mem_of_getElem? (i := 5) rfl)))))))) dX8_look_27 ?_
    refine lv_iload_n hx hb dX8_look_30 rfl (lv_at hl 1 rfl) ?_
    refine lv_iconst (v := 2) hx hb dX8_look_31 (by decide +kernel) ?_
    refine ro_calli (va_runV (As := [.int r1, .int 2]) (rest := [.ref (a 151)]) ⟨hx, hb, hml, hown, hts⟩ (x_X6_has_eTS l D H.size .null a t i q c d r1 2 hI (show 0 ≤ r1.toInt ∧ r1.toInt ≤ 29 from by have h91 : (2 : Int32).toInt = 2 := (by decide +kernel); omega) (show 0 ≤ 2 ∧ 2 ≤ 5 from by decide +kernel)) (cwV 2 hts gm_X8_look_eTG_X6_has_eTS_40 rfl rfl rfl (by decide +kernel) ⟨Nat.le_of_ble_eq_true rfl, Nat.le_of_ble_eq_true rfl⟩) (yA_V hN (xZ_k hZ hS hA) (xkT_P1 hK) (xuT_P1 (sk := sk) hP) (ci := 6) (q0 := 0) rfl rfl) rfl rfl hl.1 rfl (lv_room (Nat.le_of_ble_eq_true rfl)) dX8_look_32 ⟨Nat.le_of_ble_eq_true rfl, Nat.le_of_ble_eq_true rfl⟩) hS hA hP (fun r38 u38 H locs hw38 hP hS => ?_)
    have hw38 : ((0 ≤ r38.toInt ∧ r38.toInt ≤ 1) ∧ (Sm r38 (hbt (c 150 r1.toInt.toNat) 2))) := hw38
    obtain ⟨hw38, hr38_0⟩ := hw38
    have hr38_0 : Sm r38 (hbt (c 150 r1.toInt.toNat) 2) := hr38_0
    refine lv_if_eq (tgt := 42) hx hb dX8_look_35 (by decide +kernel) (fun c39 => ?_) (fun c39 => ?_)
    · have f39 := (ti_eq (a := r38.toInt) (b := 0) rfl (by decide +kernel)).mp c39
      have s39 := sm_f hr38_0 c39
      refine lv_iconst (v := 0) hx hb dX8_look_42 (by decide +kernel) ?_
      exact jn4  (0 : Int32) (show 0 ≤ (0 : Int32).toInt ∧ (0 : Int32).toInt ≤ 1 from by decide +kernel) (show Sm (0 : Int32) ((zX (c 106) (c 108) (i 111).toInt) (shl (zX (c 106) (c 108) (i 111).toInt) (hF (c 150)) (bT (c 150) 0) (bT (c 150) 5) ((1 : Int) ≤ 0) w.toInt) = 0 ∧ (bT (c 150) 2) (shl (zX (c 106) (c 108) (i 111).toInt) (hF (c 150)) (bT (c 150) 0) (bT (c 150) 5) ((1 : Int) ≤ 0) w.toInt)) from sm_0 (fun h9 => by have h8 : (bT (c 150) 2) (shl (zX (c 106) (c 108) (i 111).toInt) (hF (c 150)) (bT (c 150) 0) (bT (c 150) 5) ((1 : Int) ≤ 0) w.toInt) := h9.2; rw [← hsh] at h8; exact s39 h8)) _ _ _ hP hD hS (lv_sub hl [0, 1, 2, 3] rfl)
    · have f39 := mt (ti_eq (a := r38.toInt) (b := 0) rfl (by decide +kernel)).mpr c39
      have s39 := sm_t hr38_0 c39
      refine lv_iconst (v := 1) hx hb dX8_look_38 (by decide +kernel) ?_
      refine lv_goto (tgt := 43) hx hb dX8_look_39 (by decide +kernel) ?_
      exact jn4  (1 : Int32) (show 0 ≤ (1 : Int32).toInt ∧ (1 : Int32).toInt ≤ 1 from by decide +kernel) (show Sm (1 : Int32) ((zX (c 106) (c 108) (i 111).toInt) (shl (zX (c 106) (c 108) (i 111).toInt) (hF (c 150)) (bT (c 150) 0) (bT (c 150) 5) ((1 : Int) ≤ 0) w.toInt) = 0 ∧ (bT (c 150) 2) (shl (zX (c 106) (c 108) (i 111).toInt) (hF (c 150)) (bT (c 150) 0) (bT (c 150) 5) ((1 : Int) ≤ 0) w.toInt)) from sm_1 ⟨by omega, (show (bT (c 150) 2) (shl (zX (c 106) (c 108) (i 111).toInt) (hF (c 150)) (bT (c 150) 0) (bT (c 150) 5) ((1 : Int) ≤ 0) w.toInt) from by rw [← hsh]; exact s39)⟩) _ _ _ hP hD hS (lv_sub hl [0, 1, 2, 3] rfl)

def wm_X0_isHeld_eTA : List Cond := .code yX0_isHeld cX0_isHeld 2 (some .boolean) :: (([.fieldLink RX0 33 "TalePlay$Acts" "scene" "LTalePlay$Scene;", .fieldLink RX0 38 "TalePlay$Acts" "player" "I", .methodLink RX0 74 yX6_lies, .instanceMethod yX6_lies, .selects RX6 yX6_lies yX6_lies, .initialized RX6, .code yX6_lies cX6_lies 4 (some .boolean), .fieldLink RX6 9 "TalePlay$Scene" "cells" "[I"] : List Cond) ++ wsX00 ++ wsX60)
set_option maxRecDepth 20000 in
theorem gm_X0_isHeld_eTA_X6_lies_eTS_74 : GoodIn wm_X0_isHeld_eTA (wsV RX0 74 RX6 yX6_lies wm_X6_lies_eTS) := goodIn_w (List.forall_mem_append.mpr ⟨List.forall_mem_cons.mpr ⟨List.mem_cons_of_mem _ (List.mem_append_left _ (List.mem_append_left _ (List.mem_of_getElem? (i := 2) rfl))), List.forall_mem_cons.mpr ⟨List.mem_cons_of_mem _ (List.mem_append_left _ (List.mem_append_left _ (List.mem_of_getElem? (i := 3) rfl))), List.forall_mem_cons.mpr ⟨List.mem_cons_of_mem _ (List.mem_append_left _ (List.mem_append_left _ (List.mem_of_getElem? (i := 4) rfl))), List.forall_mem_cons.mpr ⟨List.mem_cons_of_mem _ (List.mem_append_left _ (List.mem_append_left _ (List.mem_of_getElem? (i := 5) rfl))), (fun _ h => absurd h List.not_mem_nil)⟩⟩⟩⟩, List.forall_mem_cons.mpr ⟨List.mem_cons_of_mem _ (List.mem_append_left _ (List.mem_append_left _ (List.mem_of_getElem? (i := 6) rfl))), List.forall_mem_append.mpr ⟨List.forall_mem_cons.mpr ⟨List.mem_cons_of_mem _ (List.mem_append_left _ (List.mem_append_left _ (List.mem_of_getElem? (i := 7) rfl))), (fun _ h => absurd h List.not_mem_nil)⟩, (fun _ h => List.mem_cons_of_mem _ (List.mem_append_right _ h))⟩⟩⟩) (by decide +kernel)
set_option maxHeartbeats 4000000 in
set_option maxRecDepth 100000 in
theorem x_X0_isHeld_eTA (l : Launch) (D : va_G) (sz : Nat) (sk : Value) (a : Nat → Nat) (t : Nat → ClassId) (i : Nat → Int32) (q : Int64) (c : Nat → Nat → Int32) (d : Nat → Nat → Int64) (w : Int32) (hI : xInv i c) (hw : 0 ≤ w.toInt ∧ w.toInt ≤ 29) (hpl : 0 ≤ (i 156).toInt ∧ (i 156).toInt ≤ 29) : Met l yX0_isHeld wm_X0_isHeld_eTA ({ frames := 1, cells := 0, slots := 0, locals := 23 }) (va_Pc [.ref (a 155), .int w] (yA (a 186) D sz (xwT sk a t i q c d) (xtT t))) (va_Qi (fun (r : Int32) (_ : Unit) => ((0 ≤ r.toInt ∧ r.toInt ≤ 1) ∧ (Sm r (Hd (hF (c 150)) (fX (c 150)) (i 156).toInt w.toInt)))) oA (ro sz)) 0 0 (ro sz) := by
  refine Met.ofW (cc := cX0_isHeld) (maxL := 2) (ret := (some .boolean)) (by decide +kernel) rfl ?_
  intro p e s m args below meth cd s₁ B hml hv
  obtain ⟨rfl, ⟨hsz, hP, hK⟩, hN, hZ⟩ := hv
  have hx := B.exec
  have hb := B.bytes
  have hr := B.returns
  have hts := atoms_spec (ws := wm_X0_isHeld_eTA) B.pre
  have hown : s.vm.findClass RX0 = some m.cls := findClass_of_methodNamed B.named
  have hlocks := B.notSynchronized
  subst hsz
  have hA : ∀ q : Nat, s.heap.size ≤ q → ro s.heap.size q := fun _ h => h
  have hS : va_S (ro s.heap.size) s.heap s.heap [] := va_S.rf
  have hl := lv_entry ([.ref (a 155), .int w]) (n := 2) (Nat.le_of_ble_eq_true rfl)
  rw [lg_entry_eq]
  generalize (lg_sl ([.ref (a 155), .int w]) ++ List.replicate (2 - (lg_sl ([.ref (a 155), .int w])).length) Slot.unset).toArray = ls at hl ⊢
  have hl : lv_has ls 2 [(0, .ref (a 155)), (1, .int w)] := hl
  have rb156_i : (i 156).toInt = -9 ∨ (0 ≤ (i 156).toInt ∧ (i 156).toInt ≤ 29) := hI.1 156
  refine lv_aload_n hx hb dX0_isHeld_0 rfl (lv_at hl 0 rfl) ?_
  refine xgT_TA_scene hx hb hts (fun _ h => List.mem_cons_of_mem _ (List.mem_append_left _ (List.mem_append_right _ h))) hown hK hP (hts (.fieldLink RX0 33 "TalePlay$Acts" "scene" "LTalePlay$Scene;") (List.mem_cons_of_mem _ (List.mem_append_left _ (List.mem_append_left _ (List.mem_of_getElem? (i := 0) rfl))))) dX0_isHeld_1 ?_
  refine lv_iload_n hx hb dX0_isHeld_4 rfl (lv_at hl 1 rfl) ?_
  refine lv_iconst (v := 2) hx hb dX0_isHeld_5 (by decide +kernel) ?_
  refine lv_aload_n hx hb dX0_isHeld_6 rfl (lv_at hl 0 rfl) ?_
  refine xgT_TA_player (v := (i 156)) rfl hx hb hts (fun _ h => List.mem_cons_of_mem _ (List.mem_append_left _ (List.mem_append_right _ h))) hown hK hP (hts (.fieldLink RX0 38 "TalePlay$Acts" "player" "I") (List.mem_cons_of_mem _ (List.mem_append_left _ (List.mem_append_left _ (List.mem_of_getElem? (i := 1) rfl))))) dX0_isHeld_7 ?_
  refine ro_calli (va_runV (As := [.int w, .int 2, .int (i 156)]) (rest := []) ⟨hx, hb, hml, hown, hts⟩ (x_X6_lies_eTS l D s.heap.size .null a t i q c d w 2 (i 156) hI (show 0 ≤ w.toInt ∧ w.toInt ≤ 29 from by have h91 : (2 : Int32).toInt = 2 := (by decide +kernel); omega) (show 0 ≤ 2 ∧ 2 ≤ 7 from by decide +kernel) (show 0 ≤ (i 156).toInt ∧ (i 156).toInt ≤ 31 from by have h91 : (2 : Int32).toInt = 2 := (by decide +kernel); omega)) (cwV 3 hts gm_X0_isHeld_eTA_X6_lies_eTS_74 rfl rfl rfl (by decide +kernel) ⟨Nat.le_of_ble_eq_true rfl, Nat.le_of_ble_eq_true rfl⟩) (yA_V hN (xZ_k hZ hS hA) (xkT_P1 hK) (xuT_P1 (sk := sk) hP) (ci := 6) (q0 := 0) rfl rfl) rfl rfl hl.1 rfl (lv_room (Nat.le_of_ble_eq_true rfl)) dX0_isHeld_10 ⟨Nat.le_of_ble_eq_true rfl, Nat.le_of_ble_eq_true rfl⟩) hS hA hP (fun r1 u1 H locs hw1 hP hS => ?_)
  have hw1 : ((0 ≤ r1.toInt ∧ r1.toInt ≤ 1) ∧ (Sm r1 ((c 150 w.toInt.toNat).toInt % 256 = (i 156).toInt * 8 + 2))) := hw1
  obtain ⟨hw1, hr1_0⟩ := hw1
  have hr1_0 : Sm r1 ((c 150 w.toInt.toNat).toInt % 256 = (i 156).toInt * 8 + 2) := hr1_0
  exact ro_zret hx hb hr hlocks hS (nb_n (show 0 ≤ r1.toInt ∧ r1.toInt ≤ 1 from by omega)) dX0_isHeld_13 ⟨(show 0 ≤ r1.toInt ∧ r1.toInt ≤ 1 from by omega), (show Sm r1 (Hd (hF (c 150)) (fX (c 150)) (i 156).toInt w.toInt) from sm_i hr1_0 (hd_e (by omega) (by omega) (k := 2) (by omega)))⟩

def wm_X0_isByRoom_eTA : List Cond := .code yX0_isByRoom cX0_isByRoom 1 (some .boolean) :: ((([.fieldLink RX0 33 "TalePlay$Acts" "scene" "LTalePlay$Scene;", .fieldLink RX0 38 "TalePlay$Acts" "player" "I", .methodLink RX0 80 yX6_formOf, .instanceMethod yX6_formOf, .selects RX6 yX6_formOf yX6_formOf, .initialized RX6, .code yX6_formOf cX6_formOf 3 (some .int), .fieldLink RX6 9 "TalePlay$Scene" "cells" "[I", .fieldLink RX0 9 "TalePlay$Acts" "world" "LTalePlay$World;", .methodLink RX0 83 yX6_holderOf, .instanceMethod yX6_holderOf, .selects RX6 yX6_holderOf yX6_holderOf, .code yX6_holderOf cX6_holderOf 3 (some .int), .methodLink RX0 86 yX10_sortOf, .instanceMethod yX10_sortOf, .selects RX10 yX10_sortOf yX10_sortOf] : List Cond) ++ ([.initialized RX10, .code yX10_sortOf cX10_sortOf 2 (some .int), .fieldLink RX10 37 "TalePlay$World" "objects" "I", .fieldLink RX10 15 "TalePlay$World" "sorts" "[I", .fieldLink RX10 21 "TalePlay$World" "kindOf" "[I"] : List Cond)) ++ wsX00 ++ wsX60 ++ wsX100)
set_option maxRecDepth 20000 in
theorem gm_X0_isByRoom_eTA_X6_formOf_TS_80 : GoodIn wm_X0_isByRoom_eTA (wsV RX0 80 RX6 yX6_formOf wm_X6_formOf_TS) := goodIn_w (List.forall_mem_append.mpr ⟨List.forall_mem_cons.mpr ⟨List.mem_cons_of_mem _ (List.mem_append_left _ (List.mem_append_left _ (List.mem_append_left _ (List.mem_append_left _ (List.mem_of_getElem? (i := 2) rfl))))), List.forall_mem_cons.mpr ⟨List.mem_cons_of_mem _ (List.mem_append_left _ (List.mem_append_left _ (List.mem_append_left _ (List.mem_append_left _ (List.mem_of_getElem? (i := 3) rfl))))), List.forall_mem_cons.mpr ⟨List.mem_cons_of_mem _ (List.mem_append_left _ (List.mem_append_left _ (List.mem_append_left _ (List.mem_append_left _ (List.mem_of_getElem? (i := 4) rfl))))), List.forall_mem_cons.mpr ⟨List.mem_cons_of_mem _ (List.mem_append_left _ (List.mem_append_left _ (List.mem_append_left _ (List.mem_append_left _ (List.mem_of_getElem? (i := 5) rfl))))), (fun _ h => absurd h List.not_mem_nil)⟩⟩⟩⟩, List.forall_mem_cons.mpr ⟨List.mem_cons_of_mem _ (List.mem_append_left _ (List.mem_append_left _ (List.mem_append_left _ (List.mem_append_left _ (List.mem_of_getElem? (i := 6) rfl))))), List.forall_mem_append.mpr ⟨List.forall_mem_cons.mpr ⟨List.mem_cons_of_mem _ (List.mem_append_left _ (List.mem_append_left _ (List.mem_append_left _ (List.mem_append_left _ (List.mem_of_getElem? (i := 7) rfl))))), (fun _ h => absurd h List.not_mem_nil)⟩, (fun _ h => List.mem_cons_of_mem _ (List.mem_append_left _ (List.mem_append_right _ h)))⟩⟩⟩) (by decide +kernel)
set_option maxRecDepth 20000 in
theorem gm_X0_isByRoom_eTA_X6_holderOf_TS_83 : GoodIn wm_X0_isByRoom_eTA (wsV RX0 83 RX6 yX6_holderOf wm_X6_holderOf_TS) := goodIn_w (List.forall_mem_append.mpr ⟨List.forall_mem_cons.mpr ⟨List.mem_cons_of_mem _ (List.mem_append_left _ (List.mem_append_left _ (List.mem_append_left _ (List.mem_append_left _ (List.mem_of_getElem? (i := 9) rfl))))), List.forall_mem_cons.mpr ⟨List.mem_cons_of_mem _ (List.mem_append_left _ (List.mem_append_left _ (List.mem_append_left _ (List.mem_append_left _ (List.mem_of_getElem? (i := 10) rfl))))), List.forall_mem_cons.mpr ⟨List.mem_cons_of_mem _ (List.mem_append_left _ (List.mem_append_left _ (List.mem_append_left _ (List.mem_append_left _ (List.mem_of_getElem? (i := 11) rfl))))), List.forall_mem_cons.mpr ⟨List.mem_cons_of_mem _ (List.mem_append_left _ (List.mem_append_left _ (List.mem_append_left _ (List.mem_append_left _ (List.mem_of_getElem? (i := 5) rfl))))), (fun _ h => absurd h List.not_mem_nil)⟩⟩⟩⟩, List.forall_mem_cons.mpr ⟨List.mem_cons_of_mem _ (List.mem_append_left _ (List.mem_append_left _ (List.mem_append_left _ (List.mem_append_left _ (List.mem_of_getElem? (i := 12) rfl))))), List.forall_mem_append.mpr ⟨List.forall_mem_cons.mpr ⟨List.mem_cons_of_mem _ (List.mem_append_left _ (List.mem_append_left _ (List.mem_append_left _ (List.mem_append_left _ (List.mem_of_getElem? (i := 7) rfl))))), (fun _ h => absurd h List.not_mem_nil)⟩, (fun _ h => List.mem_cons_of_mem _ (List.mem_append_left _ (List.mem_append_right _ h)))⟩⟩⟩) (by decide +kernel)
set_option maxRecDepth 20000 in
theorem gm_X0_isByRoom_eTA_X10_sortOf_e_86 : GoodIn wm_X0_isByRoom_eTA (wsV RX0 86 RX10 yX10_sortOf wm_X10_sortOf_e) := goodIn_w (List.forall_mem_append.mpr ⟨List.forall_mem_cons.mpr ⟨List.mem_cons_of_mem _ (List.mem_append_left _ (List.mem_append_left _ (List.mem_append_left _ (List.mem_append_left _ (List.mem_of_getElem? (i := 13) rfl))))), List.forall_mem_cons.mpr ⟨List.mem_cons_of_mem _ (List.mem_append_left _ (List.mem_append_left _ (List.mem_append_left _ (List.mem_append_left _ (List.mem_of_getElem? (i := 14) rfl))))), List.forall_mem_cons.mpr ⟨List.mem_cons_of_mem _ (List.mem_append_left _ (List.mem_append_left _ (List.mem_append_left _ (List.mem_append_left _ (List.mem_of_getElem? (i := 15) rfl))))), List.forall_mem_cons.mpr ⟨List.mem_cons_of_mem _ (List.mem_append_left _ (List.mem_append_left _ (List.mem_append_left _ (List.mem_append_right _ (List.mem_of_getElem? (i := 0) rfl))))), (fun _ h => absurd h List.not_mem_nil)⟩⟩⟩⟩, List.forall_mem_cons.mpr ⟨List.mem_cons_of_mem _ (List.mem_append_left _ (List.mem_append_left _ (List.mem_append_left _ (List.mem_append_right _ (List.mem_of_getElem? (i := 1) rfl))))), List.forall_mem_append.mpr ⟨List.forall_mem_cons.mpr ⟨List.mem_cons_of_mem _ (List.mem_append_left _ (List.mem_append_left _ (List.mem_append_left _ (List.mem_append_right _ (List.mem_of_getElem? (i := 2) rfl))))), List.forall_mem_cons.mpr ⟨List.mem_cons_of_mem _ (List.mem_append_left _ (List.mem_append_left _ (List.mem_append_left _ (List.mem_append_right _ (List.mem_of_getElem? (i := 3) rfl))))), List.forall_mem_cons.mpr ⟨List.mem_cons_of_mem _ (List.mem_append_left _ (List.mem_append_left _ (List.mem_append_left _ (List.mem_append_right _ (List.mem_of_getElem? (i := 4) rfl))))), (fun _ h => absurd h List.not_mem_nil)⟩⟩⟩, (fun _ h => List.mem_cons_of_mem _ (List.mem_append_right _ h))⟩⟩⟩) (by decide +kernel)
set_option maxHeartbeats 4000000 in
set_option maxRecDepth 100000 in
theorem x_X0_isByRoom_eTA (l : Launch) (D : va_G) (sz : Nat) (sk : Value) (a : Nat → Nat) (t : Nat → ClassId) (i : Nat → Int32) (q : Int64) (c : Nat → Nat → Int32) (d : Nat → Nat → Int64) (hI : xInv i c) (hpl : 0 ≤ (i 156).toInt ∧ (i 156).toInt ≤ 29) : Met l yX0_isByRoom wm_X0_isByRoom_eTA ({ frames := 1, cells := 0, slots := 0, locals := 22 }) (va_Pc [.ref (a 155)] (yA (a 186) D sz (xwT sk a t i q c d) (xtT t))) (va_Qi (fun (r : Int32) (_ : Unit) => ((0 ≤ r.toInt ∧ r.toInt ≤ 1) ∧ (Sm r (ByR (zX (c 106) (c 108) (i 111).toInt) (hF (c 150)) (fX (c 150)) (i 156).toInt)) ∧ (Im (r.toInt = 1) (¬ (c 150 (i 156).toNatClampNeg).toInt % 256 = 255)))) oA (ro sz)) 0 0 (ro sz) := by
  refine Met.ofW (cc := cX0_isByRoom) (maxL := 1) (ret := (some .boolean)) (by decide +kernel) rfl ?_
  intro p e s m args below meth cd s₁ B hml hv
  obtain ⟨rfl, ⟨hsz, hP, hK⟩, hN, hZ⟩ := hv
  have hx := B.exec
  have hb := B.bytes
  have hr := B.returns
  have hts := atoms_spec (ws := wm_X0_isByRoom_eTA) B.pre
  have hown : s.vm.findClass RX0 = some m.cls := findClass_of_methodNamed B.named
  have hlocks := B.notSynchronized
  subst hsz
  have hA : ∀ q : Nat, s.heap.size ≤ q → ro s.heap.size q := fun _ h => h
  have hS : va_S (ro s.heap.size) s.heap s.heap [] := va_S.rf
  have hl := lv_entry ([.ref (a 155)]) (n := 1) (Nat.le_of_ble_eq_true rfl)
  rw [lg_entry_eq]
  generalize (lg_sl ([.ref (a 155)]) ++ List.replicate (1 - (lg_sl ([.ref (a 155)])).length) Slot.unset).toArray = ls at hl ⊢
  have hl : lv_has ls 1 [(0, .ref (a 155))] := hl
  have rb156_i : (i 156).toInt = -9 ∨ (0 ≤ (i 156).toInt ∧ (i 156).toInt ≤ 29) := hI.1 156
  have rb111_i : 0 ≤ (i 111).toInt ∧ (i 111).toInt ≤ 30 := hI.1 111
  refine lv_aload_n hx hb dX0_isByRoom_0 rfl (lv_at hl 0 rfl) ?_
  refine xgT_TA_scene hx hb hts (fun _ h => List.mem_cons_of_mem _ (List.mem_append_left _ (List.mem_append_left _ (List.mem_append_right _ h)))) hown hK hP (hts (.fieldLink RX0 33 "TalePlay$Acts" "scene" "LTalePlay$Scene;") (List.mem_cons_of_mem _ (List.mem_append_left _ (List.mem_append_left _ (List.mem_append_left _ (List.mem_append_left _ (List.mem_of_getElem? (i := 0) rfl))))))) dX0_isByRoom_1 ?_
  refine lv_aload_n hx hb dX0_isByRoom_4 rfl (lv_at hl 0 rfl) ?_
  refine xgT_TA_player (v := (i 156)) rfl hx hb hts (fun _ h => List.mem_cons_of_mem _ (List.mem_append_left _ (List.mem_append_left _ (List.mem_append_right _ h)))) hown hK hP (hts (.fieldLink RX0 38 "TalePlay$Acts" "player" "I") (List.mem_cons_of_mem _ (List.mem_append_left _ (List.mem_append_left _ (List.mem_append_left _ (List.mem_append_left _ (List.mem_of_getElem? (i := 1) rfl))))))) dX0_isByRoom_5 ?_
  refine ro_calli (va_runV (As := [.int (i 156)]) (rest := []) ⟨hx, hb, hml, hown, hts⟩ (x_X6_formOf_TS l D s.heap.size .null a t i q c d (i 156) hI (show 0 ≤ (i 156).toInt ∧ (i 156).toInt ≤ 29 from by omega)) (cwV 1 hts gm_X0_isByRoom_eTA_X6_formOf_TS_80 rfl rfl rfl (by decide +kernel) ⟨Nat.le_of_ble_eq_true rfl, Nat.le_of_ble_eq_true rfl⟩) (yA_V hN (xZ_k hZ hS hA) (xkT_P1 hK) (xuT_P1 (sk := sk) hP) (ci := 6) (q0 := 0) rfl rfl) rfl rfl hl.1 rfl (lv_room (Nat.le_of_ble_eq_true rfl)) dX0_isByRoom_8 ⟨Nat.le_of_ble_eq_true rfl, Nat.le_of_ble_eq_true rfl⟩) hS hA hP (fun r1 u1 H locs hw1 hP hS => ?_)
  have hw1 : ((r1.toInt = -9 ∧ (c 150 (i 156).toNatClampNeg).toInt % 256 = 255) ∨ (0 ≤ r1.toInt ∧ r1.toInt ≤ 4 ∧ ¬ (c 150 (i 156).toNatClampNeg).toInt % 256 = 255 ∧ r1.toInt = (c 150 (i 156).toNatClampNeg).toInt % 8)) := hw1
  have hfm : (fX (c 150)) (i 156).toInt = r1.toInt := fX_at (by omega) hw1
  refine lv_if_ne (tgt := 39) hx hb dX0_isByRoom_11 (by decide +kernel) (fun c2 => ?_) (fun c2 => ?_)
  · have f2 := mt (ti_eq (a := r1.toInt) (b := 0) rfl (by decide +kernel)).mpr c2
    refine lv_iconst (v := 0) hx hb dX0_isByRoom_39 (by decide +kernel) ?_
    exact ro_zret hx hb hr hlocks hS rfl dX0_isByRoom_40 ⟨(show 0 ≤ (0 : Int32).toInt ∧ (0 : Int32).toInt ≤ 1 from by decide +kernel), (show Sm (0 : Int32) (ByR (zX (c 106) (c 108) (i 111).toInt) (hF (c 150)) (fX (c 150)) (i 156).toInt) from sm_0 (fun h9 => by have h8 := h9.1; have h7 := h9.2; omega)), (show Im ((0 : Int32).toInt = 1) (¬ (c 150 (i 156).toNatClampNeg).toInt % 256 = 255) from fun h9 => absurd h9 (by decide +kernel))⟩
  · have f2 := (ti_eq (a := r1.toInt) (b := 0) rfl (by decide +kernel)).mp c2
    refine lv_aload_n hx hb dX0_isByRoom_14 rfl (lv_at hl 0 rfl) ?_
    refine xgT_TA_world hx hb hts (fun _ h => List.mem_cons_of_mem _ (List.mem_append_left _ (List.mem_append_left _ (List.mem_append_right _ h)))) hown hK hP (hts (.fieldLink RX0 9 "TalePlay$Acts" "world" "LTalePlay$World;") (List.mem_cons_of_mem _ (List.mem_append_left _ (List.mem_append_left _ (List.mem_append_left _ (List.mem_append_left _ (List.mem_of_getElem? (i := 8) rfl))))))) dX0_isByRoom_15 ?_
    refine lv_aload_n hx hb dX0_isByRoom_18 rfl (lv_at hl 0 rfl) ?_
    refine xgT_TA_scene hx hb hts (fun _ h => List.mem_cons_of_mem _ (List.mem_append_left _ (List.mem_append_left _ (List.mem_append_right _ h)))) hown hK hP (hts (.fieldLink RX0 33 "TalePlay$Acts" "scene" "LTalePlay$Scene;") (List.mem_cons_of_mem _ (List.mem_append_left _ (List.mem_append_left _ (List.mem_append_left _ (List.mem_append_left _ (List.mem_of_getElem? (i := 0) rfl))))))) dX0_isByRoom_19 ?_
    refine lv_aload_n hx hb dX0_isByRoom_22 rfl (lv_at hl 0 rfl) ?_
    refine xgT_TA_player (v := (i 156)) rfl hx hb hts (fun _ h => List.mem_cons_of_mem _ (List.mem_append_left _ (List.mem_append_left _ (List.mem_append_right _ h)))) hown hK hP (hts (.fieldLink RX0 38 "TalePlay$Acts" "player" "I") (List.mem_cons_of_mem _ (List.mem_append_left _ (List.mem_append_left _ (List.mem_append_left _ (List.mem_append_left _ (List.mem_of_getElem? (i := 1) rfl))))))) dX0_isByRoom_23 ?_
    refine ro_calli (va_runV (As := [.int (i 156)]) (rest := [.ref (a 104)]) ⟨hx, hb, hml, hown, hts⟩ (x_X6_holderOf_TS l D H.size .null a t i q c d (i 156) hI (show 0 ≤ (i 156).toInt ∧ (i 156).toInt ≤ 29 from by omega)) (cwV 1 hts gm_X0_isByRoom_eTA_X6_holderOf_TS_83 rfl rfl rfl (by decide +kernel) ⟨Nat.le_of_ble_eq_true rfl, Nat.le_of_ble_eq_true rfl⟩) (yA_V hN (xZ_k hZ hS hA) (xkT_P1 hK) (xuT_P1 (sk := sk) hP) (ci := 6) (q0 := 0) rfl rfl) rfl rfl hl.1 rfl (lv_room (Nat.le_of_ble_eq_true rfl)) dX0_isByRoom_26 ⟨Nat.le_of_ble_eq_true rfl, Nat.le_of_ble_eq_true rfl⟩) hS hA hP (fun r3 u3 H locs hw3 hP hS => ?_)
    have hw3 : ((r3.toInt = -9 ∧ (c 150 (i 156).toNatClampNeg).toInt % 256 = 255) ∨ (0 ≤ r3.toInt ∧ r3.toInt ≤ 29 ∧ ¬ (c 150 (i 156).toNatClampNeg).toInt % 256 = 255 ∧ r3.toInt = (c 150 (i 156).toNatClampNeg).toInt / 8 % 32)) := hw3
    have hho : (hF (c 150)) (i 156).toInt = r3.toInt := hF_at (by omega) hw3
    refine ro_calli (va_runV (As := [.int r3]) (rest := []) ⟨hx, hb, hml, hown, hts⟩ (x_X10_sortOf_e l D H.size .null a t i q c d r3 hI ) (cwV 1 hts gm_X0_isByRoom_eTA_X10_sortOf_e_86 rfl rfl rfl (by decide +kernel) ⟨Nat.le_of_ble_eq_true rfl, Nat.le_of_ble_eq_true rfl⟩) (yA_V hN (xZ_k hZ hS hA) (xkT_W hK) (xuT_W (sk := sk) hP) (ci := 10) (q0 := 0) rfl rfl) rfl rfl hl.1 rfl (lv_room (Nat.le_of_ble_eq_true rfl)) dX0_isByRoom_29 ⟨Nat.le_of_ble_eq_true rfl, Nat.le_of_ble_eq_true rfl⟩) hS hA hP (fun r4 u4 H locs hw4 hP hS => ?_)
    have hw4 : (((r4.toInt = -9 ∧ ¬ (0 ≤ r3.toInt ∧ r3.toInt < (i 111).toInt)) ∨ (0 ≤ r4.toInt ∧ r4.toInt ≤ 5 ∧ 0 ≤ r3.toInt ∧ r3.toInt < (i 111).toInt)) ∧ (SO (c 106) (c 108) (i 111).toInt r3.toInt r4.toInt)) := hw4
    obtain ⟨hw4, hr4_0⟩ := hw4
    have hr4_0 : SO (c 106) (c 108) (i 111).toInt r3.toInt r4.toInt := hr4_0
    have hzo : r4.toInt = (zX (c 106) (c 108) (i 111).toInt) ((hF (c 150)) (i 156).toInt) := by rw [hho]; exact SO_z hr4_0
    refine lv_if_ne (tgt := 39) hx hb dX0_isByRoom_32 (by decide +kernel) (fun c5 => ?_) (fun c5 => ?_)
    · have f5 := mt (ti_eq (a := r4.toInt) (b := 0) rfl (by decide +kernel)).mpr c5
      refine lv_iconst (v := 0) hx hb dX0_isByRoom_39 (by decide +kernel) ?_
      exact ro_zret hx hb hr hlocks hS rfl dX0_isByRoom_40 ⟨(show 0 ≤ (0 : Int32).toInt ∧ (0 : Int32).toInt ≤ 1 from by decide +kernel), (show Sm (0 : Int32) (ByR (zX (c 106) (c 108) (i 111).toInt) (hF (c 150)) (fX (c 150)) (i 156).toInt) from sm_0 (fun h9 => by have h8 := h9.1; have h7 := h9.2; omega)), (show Im ((0 : Int32).toInt = 1) (¬ (c 150 (i 156).toNatClampNeg).toInt % 256 = 255) from fun h9 => absurd h9 (by decide +kernel))⟩
    · have f5 := (ti_eq (a := r4.toInt) (b := 0) rfl (by decide +kernel)).mp c5
      refine lv_iconst (v := 1) hx hb dX0_isByRoom_35 (by decide +kernel) ?_
      refine lv_goto (tgt := 40) hx hb dX0_isByRoom_36 (by decide +kernel) ?_
      exact ro_zret hx hb hr hlocks hS rfl dX0_isByRoom_40 ⟨(show 0 ≤ (1 : Int32).toInt ∧ (1 : Int32).toInt ≤ 1 from by decide +kernel), (show Sm (1 : Int32) (ByR (zX (c 106) (c 108) (i 111).toInt) (hF (c 150)) (fX (c 150)) (i 156).toInt) from sm_1 ⟨by omega, by omega⟩), (show Im ((1 : Int32).toInt = 1) (¬ (c 150 (i 156).toNatClampNeg).toInt % 256 = 255) from fun _ => by omega)⟩

def wm_X0_reasonToGo_eTA : List Cond := .code yX0_reasonToGo cX0_reasonToGo 4 (some .int) :: ((([.methodLink RX0 91 yX0_isByRoom, .instanceMethod yX0_isByRoom, .selects RX0 yX0_isByRoom yX0_isByRoom, .initialized RX0, .code yX0_isByRoom cX0_isByRoom 1 (some .boolean), .fieldLink RX0 33 "TalePlay$Acts" "scene" "LTalePlay$Scene;", .fieldLink RX0 38 "TalePlay$Acts" "player" "I", .methodLink RX0 80 yX6_formOf, .instanceMethod yX6_formOf, .selects RX6 yX6_formOf yX6_formOf, .initialized RX6, .code yX6_formOf cX6_formOf 3 (some .int), .fieldLink RX6 9 "TalePlay$Scene" "cells" "[I", .fieldLink RX0 9 "TalePlay$Acts" "world" "LTalePlay$World;", .methodLink RX0 83 yX6_holderOf, .instanceMethod yX6_holderOf] : List Cond) ++ (([.selects RX6 yX6_holderOf yX6_holderOf, .code yX6_holderOf cX6_holderOf 3 (some .int), .methodLink RX0 86 yX10_sortOf, .instanceMethod yX10_sortOf, .selects RX10 yX10_sortOf yX10_sortOf, .initialized RX10, .code yX10_sortOf cX10_sortOf 2 (some .int), .fieldLink RX10 37 "TalePlay$World" "objects" "I", .fieldLink RX10 15 "TalePlay$World" "sorts" "[I", .fieldLink RX10 21 "TalePlay$World" "kindOf" "[I", .fieldLink RX0 19 "TalePlay$Acts" "roads" "LTalePlay$Roads;", .fieldLink RX0 95 "TalePlay$Roads" "leads" "[I", .fieldLink RX0 101 "TalePlay$Roads" "doors" "[I", .methodLink RX0 104 yX6_has, .instanceMethod yX6_has, .selects RX6 yX6_has yX6_has] : List Cond) ++ ([.code yX6_has cX6_has 3 (some .boolean)] : List Cond))) ++ wsX00 ++ wsX60 ++ wsX100 ++ wsX50)
set_option maxRecDepth 20000 in
theorem gm_X0_reasonToGo_eTA_X0_isByRoom_eTA_91 : GoodIn wm_X0_reasonToGo_eTA (wsV RX0 91 RX0 yX0_isByRoom wm_X0_isByRoom_eTA) := goodIn_w (List.forall_mem_append.mpr ⟨List.forall_mem_cons.mpr ⟨List.mem_cons_of_mem _ (List.mem_append_left _ (List.mem_append_left _ (List.mem_append_left _ (List.mem_append_left _ (List.mem_append_left _ (List.mem_of_getElem? (i := 0) rfl)))))), List.forall_mem_cons.mpr ⟨List.mem_cons_of_mem _ (List.mem_append_left _ (List.mem_append_left _ (List.mem_append_left _ (List.mem_append_left _ (List.mem_append_left _ (List.mem_of_getElem? (i := 1) rfl)))))), List.forall_mem_cons.mpr ⟨List.mem_cons_of_mem _ (List.mem_append_left _ (List.mem_append_left _ (List.mem_append_left _ (List.mem_append_left _ (List.mem_append_left _ (List.mem_of_getElem? (i := 2) rfl)))))), List.forall_mem_cons.mpr ⟨List.mem_cons_of_mem _ (List.mem_append_left _ (List.mem_append_left _ (List.mem_append_left _ (List.mem_append_left _ (List.mem_append_left _ (List.mem_of_getElem? (i := 3) rfl)))))), (fun _ h => absurd h List.not_mem_nil)⟩⟩⟩⟩, List.forall_mem_cons.mpr ⟨List.mem_cons_of_mem _ (List.mem_append_left _ (List.mem_append_left _ (List.mem_append_left _ (List.mem_append_left _ (List.mem_append_left _ (List.mem_of_getElem? (i := 4) rfl)))))), List.forall_mem_append.mpr ⟨List.forall_mem_append.mpr ⟨List.forall_mem_append.mpr ⟨List.forall_mem_append.mpr ⟨List.forall_mem_cons.mpr ⟨List.mem_cons_of_mem _ (List.mem_append_left _ (List.mem_append_left _ (List.mem_append_left _ (List.mem_append_left _ (List.mem_append_left _ (List.mem_of_getElem? (i := 5) rfl)))))), List.forall_mem_cons.mpr ⟨List.mem_cons_of_mem _ (List.mem_append_left _ (List.mem_append_left _ (List.mem_append_left _ (List.mem_append_left _ (List.mem_append_left _ (List.mem_of_getElem? (i := 6) rfl)))))), List.forall_mem_cons.mpr ⟨List.mem_cons_of_mem _ (List.mem_append_left _ (List.mem_append_left _ (List.mem_append_left _ (List.mem_append_left _ (List.mem_append_left _ (List.mem_of_getElem? (i := 7) rfl)))))), List.forall_mem_cons.mpr ⟨List.mem_cons_of_mem _ (List.mem_append_left _ (List.mem_append_left _ (List.mem_append_left _ (List.mem_append_left _ (List.mem_append_left _ (List.mem_of_getElem? (i := 8) rfl)))))), List.forall_mem_cons.mpr ⟨List.mem_cons_of_mem _ (List.mem_append_left _ (List.mem_append_left _ (List.mem_append_left _ (List.mem_append_left _ (List.mem_append_left _ (List.mem_of_getElem? (i := 9) rfl)))))), List.forall_mem_cons.mpr ⟨List.mem_cons_of_mem _ (List.mem_append_left _ (List.mem_append_left _ (List.mem_append_left _ (List.mem_append_left _ (List.mem_append_left _ (List.mem_of_getElem? (i := 10) rfl)))))), List.forall_mem_cons.mpr ⟨List.mem_cons_of_mem _ (List.mem_append_left _ (List.mem_append_left _ (List.mem_append_left _ (List.mem_append_left _ (List.mem_append_left _ (List.mem_of_getElem? (i := 11) rfl)))))), List.forall_mem_cons.mpr ⟨List.mem_cons_of_mem _ (List.mem_append_left _ (List.mem_append_left _ (List.mem_append_left _ (List.mem_append_left _ (List.mem_append_left _ (List.mem_of_getElem? (i := 12) rfl)))))), List.forall_mem_cons.mpr ⟨List.mem_cons_of_mem _ (List.mem_append_left _ (List.mem_append_left _ (List.mem_append_left _ (List.mem_append_left _ (List.mem_append_left _ (List.mem_of_getElem? (i := 13) rfl)))))), List.forall_mem_cons.mpr ⟨List.mem_cons_of_mem _ (List.mem_append_left _ (List.mem_append_left _ (List.mem_append_left _ (List.mem_append_left _ (List.mem_append_left _ (List.mem_of_getElem? (i := 14) rfl)))))), List.forall_mem_cons.mpr ⟨List.mem_cons_of_mem _ (List.mem_append_left _ (List.mem_append_left _ (List.mem_append_left _ (List.mem_append_left _ (List.mem_append_left _ (List.mem_of_getElem? (i := 15) rfl)))))), List.forall_mem_cons.mpr ⟨List.mem_cons_of_mem _ (List.mem_append_left _ (List.mem_append_left _ (List.mem_append_left _ (List.mem_append_left _ (List.mem_append_right _ (List.mem_append_left _ (List.mem_of_getElem? (i := 0) rfl))))))), List.forall_mem_cons.mpr ⟨List.mem_cons_of_mem _ (List.mem_append_left _ (List.mem_append_left _ (List.mem_append_left _ (List.mem_append_left _ (List.mem_append_right _ (List.mem_append_left _ (List.mem_of_getElem? (i := 1) rfl))))))), List.forall_mem_cons.mpr ⟨List.mem_cons_of_mem _ (List.mem_append_left _ (List.mem_append_left _ (List.mem_append_left _ (List.mem_append_left _ (List.mem_append_right _ (List.mem_append_left _ (List.mem_of_getElem? (i := 2) rfl))))))), List.forall_mem_cons.mpr ⟨List.mem_cons_of_mem _ (List.mem_append_left _ (List.mem_append_left _ (List.mem_append_left _ (List.mem_append_left _ (List.mem_append_right _ (List.mem_append_left _ (List.mem_of_getElem? (i := 3) rfl))))))), List.forall_mem_cons.mpr ⟨List.mem_cons_of_mem _ (List.mem_append_left _ (List.mem_append_left _ (List.mem_append_left _ (List.mem_append_left _ (List.mem_append_right _ (List.mem_append_left _ (List.mem_of_getElem? (i := 4) rfl))))))), (fun _ h => absurd h List.not_mem_nil)⟩⟩⟩⟩⟩⟩⟩⟩⟩⟩⟩⟩⟩⟩⟩⟩, List.forall_mem_cons.mpr ⟨List.mem_cons_of_mem _ (List.mem_append_left _ (List.mem_append_left _ (List.mem_append_left _ (List.mem_append_left _ (List.mem_append_right _ (List.mem_append_left _ (List.mem_of_getElem? (i := 5) rfl))))))), List.forall_mem_cons.mpr ⟨List.mem_cons_of_mem _ (List.mem_append_left _ (List.mem_append_left _ (List.mem_append_left _ (List.mem_append_left _ (List.mem_append_right _ (List.mem_append_left _ (List.mem_of_getElem? (i := 6) rfl))))))), List.forall_mem_cons.mpr ⟨List.mem_cons_of_mem _ (List.mem_append_left _ (List.mem_append_left _ (List.mem_append_left _ (List.mem_append_left _ (List.mem_append_right _ (List.mem_append_left _ (List.mem_of_getElem? (i := 7) rfl))))))), List.forall_mem_cons.mpr ⟨List.mem_cons_of_mem _ (List.mem_append_left _ (List.mem_append_left _ (List.mem_append_left _ (List.mem_append_left _ (List.mem_append_right _ (List.mem_append_left _ (List.mem_of_getElem? (i := 8) rfl))))))), List.forall_mem_cons.mpr ⟨List.mem_cons_of_mem _ (List.mem_append_left _ (List.mem_append_left _ (List.mem_append_left _ (List.mem_append_left _ (List.mem_append_right _ (List.mem_append_left _ (List.mem_of_getElem? (i := 9) rfl))))))), (fun _ h => absurd h List.not_mem_nil)⟩⟩⟩⟩⟩⟩, (fun _ h => List.mem_cons_of_mem _ (List.mem_append_left _ (List.mem_append_left _ (List.mem_append_left _ (List.mem_append_right _ h)))))⟩, (fun _ h => List.mem_cons_of_mem _ (List.mem_append_left _ (List.mem_append_left _ (List.mem_append_right _ h))))⟩, (fun _ h => List.mem_cons_of_mem _ (List.mem_append_left _ (List.mem_append_right _ h)))⟩⟩⟩) (by decide +kernel)
set_option maxRecDepth 20000 in
theorem gm_X0_reasonToGo_eTA_X6_holderOf_TS_83 : GoodIn wm_X0_reasonToGo_eTA (wsV RX0 83 RX6 yX6_holderOf wm_X6_holderOf_TS) := goodIn_w (List.forall_mem_append.mpr ⟨List.forall_mem_cons.mpr ⟨List.mem_cons_of_mem _ (List.mem_append_left _ (List.mem_append_left _ (List.mem_append_left _ (List.mem_append_left _ (List.mem_append_left _ (List.mem_of_getElem? (i := 14) rfl)))))), List.forall_mem_cons.mpr ⟨List.mem_cons_of_mem _ (List.mem_append_left _ (List.mem_append_left _ (List.mem_append_left _ (List.mem_append_left _ (List.mem_append_left _ (List.mem_of_getElem? (i := 15) rfl)))))), List.forall_mem_cons.mpr ⟨List.mem_cons_of_mem _ (List.mem_append_left _ (List.mem_append_left _ (List.mem_append_left _ (List.mem_append_left _ (List.mem_append_right _ (List.mem_append_left _ (List.mem_of_getElem? (i := 0) rfl))))))), List.forall_mem_cons.mpr ⟨List.mem_cons_of_mem _ (List.mem_append_left _ (List.mem_append_left _ (List.mem_append_left _ (List.mem_append_left _ (List.mem_append_left _ (List.mem_of_getElem? (i := 10) rfl)))))), (fun _ h => absurd h List.not_mem_nil)⟩⟩⟩⟩, List.forall_mem_cons.mpr ⟨List.mem_cons_of_mem _ (List.mem_append_left _ (List.mem_append_left _ (List.mem_append_left _ (List.mem_append_left _ (List.mem_append_right _ (List.mem_append_left _ (List.mem_of_getElem? (i := 1) rfl))))))), List.forall_mem_append.mpr ⟨List.forall_mem_cons.mpr ⟨List.mem_cons_of_mem _ (List.mem_append_left _ (List.mem_append_left _ (List.mem_append_left _ (List.mem_append_left _ (List.mem_append_left _ (List.mem_of_getElem? (i := 12) rfl)))))), (fun _ h => absurd h List.not_mem_nil)⟩, (fun _ h => List.mem_cons_of_mem _ (List.mem_append_left _ (List.mem_append_left _ (List.mem_append_right _ h))))⟩⟩⟩) (by decide +kernel)
set_option maxRecDepth 20000 in
theorem gm_X0_reasonToGo_eTA_X6_has_eTS_104 : GoodIn wm_X0_reasonToGo_eTA (wsV RX0 104 RX6 yX6_has wm_X6_has_eTS) := goodIn_w (List.forall_mem_append.mpr ⟨List.forall_mem_cons.mpr ⟨List.mem_cons_of_mem _ (List.mem_append_left _ (List.mem_append_left _ (List.mem_append_left _ (List.mem_append_left _ (List.mem_append_right _ (List.mem_append_left _ (List.mem_of_getElem? (i := 13) rfl))))))), List.forall_mem_cons.mpr ⟨List.mem_cons_of_mem _ (List.mem_append_left _ (List.mem_append_left _ (List.mem_append_left _ (List.mem_append_left _ (List.mem_append_right _ (List.mem_append_left _ (List.mem_of_getElem? (i := 14) rfl))))))), List.forall_mem_cons.mpr ⟨List.mem_cons_of_mem _ (List.mem_append_left _ (List.mem_append_left _ (List.mem_append_left _ (List.mem_append_left _ (List.mem_append_right _ (List.mem_append_left _ (List.mem_of_getElem? (i := 15) rfl))))))), List.forall_mem_cons.mpr ⟨List.mem_cons_of_mem _ (List.mem_append_left _ (List.mem_append_left _ (List.mem_append_left _ (List.mem_append_left _ (List.mem_append_left _ (List.mem_of_getElem? (i := 10) rfl)))))), (fun _ h => absurd h List.not_mem_nil)⟩⟩⟩⟩, List.forall_mem_cons.mpr ⟨List.mem_cons_of_mem _ (List.mem_append_left _ (List.mem_append_left _ (List.mem_append_left _ (List.mem_append_left _ (List.mem_append_right _ (List.mem_append_right _ (List.mem_of_getElem? (i := 0) rfl))))))), List.forall_mem_append.mpr ⟨List.forall_mem_cons.mpr ⟨List.mem_cons_of_mem _ (List.mem_append_left _ (List.mem_append_left _ (List.mem_append_left _ (List.mem_append_left _ (List.mem_append_left _ (List.mem_of_getElem? (i := 12) rfl)))))), (fun _ h => absurd h List.not_mem_nil)⟩, (fun _ h => List.mem_cons_of_mem _ (List.mem_append_left _ (List.mem_append_left _ (List.mem_append_right _ h))))⟩⟩⟩) (by decide +kernel)
set_option maxHeartbeats 4000000 in
set_option maxRecDepth 100000 in
theorem x_X0_reasonToGo_eTA (l : Launch) (D : va_G) (sz : Nat) (sk : Value) (a : Nat → Nat) (t : Nat → ClassId) (i : Nat → Int32) (q : Int64) (c : Nat → Nat → Int32) (d : Nat → Nat → Int64) (w : Int32) (hI : xInv i c) (hw : 0 ≤ w.toInt ∧ w.toInt ≤ 9) (hpl : 0 ≤ (i 156).toInt ∧ (i 156).toInt ≤ 29) : Met l yX0_reasonToGo wm_X0_reasonToGo_eTA ({ frames := 2, cells := 0, slots := 0, locals := 42 }) (va_Pc [.ref (a 155), .int w] (yA (a 186) D sz (xwT sk a t i q c d) (xtT t))) (va_Qi (fun (r : Int32) (_ : Unit) => ((0 ≤ r.toInt ∧ r.toInt ≤ 3) ∧ (Im (r.toInt = 0) (AG (c 150) (c 129) (i 156) w)) ∧ (r.toInt = goV (ByR (zX (c 106) (c 108) (i 111).toInt) (hF (c 150)) (fX (c 150)) (i 156).toInt) (c 129 ((hF (c 150)) (i 156).toInt * 10 + w.toInt).toNat).toInt (c 130 ((hF (c 150)) (i 156).toInt * 10 + w.toInt).toNat).toInt (bT (c 150) 0)))) oA (ro sz)) 0 0 (ro sz) := by
  refine Met.ofW (cc := cX0_reasonToGo) (maxL := 4) (ret := (some .int)) (by decide +kernel) rfl ?_
  intro p e s m args below meth cd s₁ B hml hv
  obtain ⟨rfl, ⟨hsz, hP, hK⟩, hN, hZ⟩ := hv
  have hx := B.exec
  have hb := B.bytes
  have hr := B.returns
  have hts := atoms_spec (ws := wm_X0_reasonToGo_eTA) B.pre
  have hown : s.vm.findClass RX0 = some m.cls := findClass_of_methodNamed B.named
  have hlocks := B.notSynchronized
  subst hsz
  have hA : ∀ q : Nat, s.heap.size ≤ q → ro s.heap.size q := fun _ h => h
  have hS : va_S (ro s.heap.size) s.heap s.heap [] := va_S.rf
  have hl := lv_entry ([.ref (a 155), .int w]) (n := 4) (Nat.le_of_ble_eq_true rfl)
  rw [lg_entry_eq]
  generalize (lg_sl ([.ref (a 155), .int w]) ++ List.replicate (4 - (lg_sl ([.ref (a 155), .int w])).length) Slot.unset).toArray = ls at hl ⊢
  have hl : lv_has ls 4 [(0, .ref (a 155)), (1, .int w)] := hl
  have rb156_i : (i 156).toInt = -9 ∨ (0 ≤ (i 156).toInt ∧ (i 156).toInt ≤ 29) := hI.1 156
  refine lv_aload_n hx hb dX0_reasonToGo_0 rfl (lv_at hl 0 rfl) ?_
  have rb111_i : 0 ≤ (i 111).toInt ∧ (i 111).toInt ≤ 30 := hI.1 111
  refine ro_calli (va_runV (As := []) (rest := []) ⟨hx, hb, hml, hown, hts⟩ (x_X0_isByRoom_eTA l D s.heap.size sk a t i q c d  hI (show 0 ≤ ((i 156) : Int32).toInt ∧ ((i 156) : Int32).toInt ≤ 29 from by omega)) (cwV 0 hts gm_X0_reasonToGo_eTA_X0_isByRoom_eTA_91 rfl rfl rfl (by decide +kernel) ⟨Nat.le_of_ble_eq_true rfl, Nat.le_of_ble_eq_true rfl⟩) (yA_V hN (xZ_k hZ hS hA) hK hP (ci := 0) (q0 := 42) rfl rfl) rfl rfl hl.1 rfl (lv_room (Nat.le_of_ble_eq_true rfl)) dX0_reasonToGo_1 ⟨Nat.le_of_ble_eq_true rfl, Nat.le_of_ble_eq_true rfl⟩) hS hA hP (fun r1 u1 H locs hw1 hP hS => ?_)
  have hw1 : ((0 ≤ r1.toInt ∧ r1.toInt ≤ 1) ∧ (Sm r1 (ByR (zX (c 106) (c 108) (i 111).toInt) (hF (c 150)) (fX (c 150)) (i 156).toInt)) ∧ (Im (r1.toInt = 1) (¬ (c 150 (i 156).toNatClampNeg).toInt % 256 = 255))) := hw1
  obtain ⟨hw1, hr1_0, hr1_1⟩ := hw1
  have hr1_0 : Sm r1 (ByR (zX (c 106) (c 108) (i 111).toInt) (hF (c 150)) (fX (c 150)) (i 156).toInt) := hr1_0
  have hr1_1 : Im (r1.toInt = 1) (¬ (c 150 (i 156).toNatClampNeg).toInt % 256 = 255) := hr1_1
  refine lv_if_ne (tgt := 9) hx hb dX0_reasonToGo_4 (by decide +kernel) (fun c2 => ?_) (fun c2 => ?_)
  · have f2 := mt (ti_eq (a := r1.toInt) (b := 0) rfl (by decide +kernel)).mpr c2
    have s2 := sm_t hr1_0 c2
    have hby := hr1_1 (by omega)
    have hBy : (ByR (zX (c 106) (c 108) (i 111).toInt) (hF (c 150)) (fX (c 150)) (i 156).toInt) := s2
    refine lv_aload_n hx hb dX0_reasonToGo_9 rfl (lv_at hl 0 rfl) ?_
    refine xgT_TA_scene hx hb hts (fun _ h => List.mem_cons_of_mem _ (List.mem_append_left _ (List.mem_append_left _ (List.mem_append_left _ (List.mem_append_right _ h))))) hown hK hP (hts (.fieldLink RX0 33 "TalePlay$Acts" "scene" "LTalePlay$Scene;") (List.mem_cons_of_mem _ (List.mem_append_left _ (List.mem_append_left _ (List.mem_append_left _ (List.mem_append_left _ (List.mem_append_left _ (List.mem_of_getElem? (i := 5) rfl)))))))) dX0_reasonToGo_10 ?_
    refine lv_aload_n hx hb dX0_reasonToGo_13 rfl (lv_at hl 0 rfl) ?_
    refine xgT_TA_player (v := (i 156)) rfl hx hb hts (fun _ h => List.mem_cons_of_mem _ (List.mem_append_left _ (List.mem_append_left _ (List.mem_append_left _ (List.mem_append_right _ h))))) hown hK hP (hts (.fieldLink RX0 38 "TalePlay$Acts" "player" "I") (List.mem_cons_of_mem _ (List.mem_append_left _ (List.mem_append_left _ (List.mem_append_left _ (List.mem_append_left _ (List.mem_append_left _ (List.mem_of_getElem? (i := 6) rfl)))))))) dX0_reasonToGo_14 ?_
    refine ro_calli (va_runV (As := [.int (i 156)]) (rest := []) ⟨hx, hb, hml, hown, hts⟩ (x_X6_holderOf_TS l D H.size .null a t i q c d (i 156) hI (show 0 ≤ (i 156).toInt ∧ (i 156).toInt ≤ 29 from by omega)) (cwV 1 hts gm_X0_reasonToGo_eTA_X6_holderOf_TS_83 rfl rfl rfl (by decide +kernel) ⟨Nat.le_of_ble_eq_true rfl, Nat.le_of_ble_eq_true rfl⟩) (yA_V hN (xZ_k hZ hS hA) (xkT_P1 hK) (xuT_P1 (sk := sk) hP) (ci := 6) (q0 := 0) rfl rfl) rfl rfl hl.1 rfl (lv_room (Nat.le_of_ble_eq_true rfl)) dX0_reasonToGo_17 ⟨Nat.le_of_ble_eq_true rfl, Nat.le_of_ble_eq_true rfl⟩) hS hA hP (fun r3 u3 H locs hw3 hP hS => ?_)
    have hw3 : ((r3.toInt = -9 ∧ (c 150 (i 156).toNatClampNeg).toInt % 256 = 255) ∨ (0 ≤ r3.toInt ∧ r3.toInt ≤ 29 ∧ ¬ (c 150 (i 156).toNatClampNeg).toInt % 256 = 255 ∧ r3.toInt = (c 150 (i 156).toNatClampNeg).toInt / 8 % 32)) := hw3
    have hho : (hF (c 150)) (i 156).toInt = r3.toInt := hF_at (by omega) hw3
    refine lv_bipush (v := 10) hx hb dX0_reasonToGo_20 (by decide +kernel) ?_
    refine lv_imul hx hb dX0_reasonToGo_22 ?_
    refine lv_topi (fun x4 ex4 => ?_)
    have tx4 := ti_mul (a := r3.toInt) (b := 10) ex4 rfl (by decide +kernel) (by omega) (by omega)
    refine lv_iload_n hx hb dX0_reasonToGo_23 rfl (lv_at hl 1 rfl) ?_
    refine lv_iadd hx hb dX0_reasonToGo_24 ?_
    refine lv_topi (fun x5 ex5 => ?_)
    have tx5 := ti_add (a := (r3.toInt * 10)) (b := w.toInt) ex5 tx4 rfl (by omega) (by omega)
    refine lv_istore_n (lv' := [(2, .int x5), (0, .ref (a 155)), (1, .int w)]) hx hb dX0_reasonToGo_25 rfl hl (by decide +kernel) rfl (fun ls hl => ?_)
    refine lv_aload_n hx hb dX0_reasonToGo_26 rfl (lv_at hl 1 rfl) ?_
    refine xgT_TA_roads hx hb hts (fun _ h => List.mem_cons_of_mem _ (List.mem_append_left _ (List.mem_append_left _ (List.mem_append_left _ (List.mem_append_right _ h))))) hown hK hP (hts (.fieldLink RX0 19 "TalePlay$Acts" "roads" "LTalePlay$Roads;") (List.mem_cons_of_mem _ (List.mem_append_left _ (List.mem_append_left _ (List.mem_append_left _ (List.mem_append_left _ (List.mem_append_right _ (List.mem_append_left _ (List.mem_of_getElem? (i := 10) rfl))))))))) dX0_reasonToGo_27 ?_
    refine xgT_R_leads hx hb hts (fun _ h => List.mem_cons_of_mem _ (List.mem_append_right _ h)) hown hK hP (hts (.fieldLink RX0 95 "TalePlay$Roads" "leads" "[I") (List.mem_cons_of_mem _ (List.mem_append_left _ (List.mem_append_left _ (List.mem_append_left _ (List.mem_append_left _ (List.mem_append_right _ (List.mem_append_left _ (List.mem_of_getElem? (i := 11) rfl))))))))) dX0_reasonToGo_30 ?_
    refine lv_iload_n hx hb dX0_reasonToGo_33 rfl (lv_at hl 0 rfl) ?_
    refine xlT_129 hx hb hK hP (vp_in_iff.mpr (by have h9 : x5.toInt = ((r3.toInt * 10) + w.toInt) := tx5; omega)) dX0_reasonToGo_34 (fun x6 ex6 => ?_)
    have rx6 : x6.toInt = -9 ∨ (0 ≤ x6.toInt ∧ x6.toInt ≤ 29) := by rw [ex6]; exact hI.2 129 _
    have hld : (c 129 ((hF (c 150)) (i 156).toInt * 10 + w.toInt).toNat) = x6 := ix_n (f := c 129) (s := x5) (show x5.toInt = (hF (c 150)) (i 156).toInt * 10 + w.toInt from by rw [hho]; have h9 : x5.toInt = ((r3.toInt * 10) + w.toInt) := tx5; omega) ex6
    refine lv_bipush (v := (-9)) hx hb dX0_reasonToGo_35 (by decide +kernel) ?_
    refine lv_icmp_ne (tgt := 42) hx hb dX0_reasonToGo_37 (by decide +kernel) (fun c7 => ?_) (fun c7 => ?_)
    · have f7 := mt (ti_eq (a := x6.toInt) (b := (-9)) rfl (by decide +kernel)).mpr c7
      refine lv_aload_n hx hb dX0_reasonToGo_42 rfl (lv_at hl 1 rfl) ?_
      refine xgT_TA_roads hx hb hts (fun _ h => List.mem_cons_of_mem _ (List.mem_append_left _ (List.mem_append_left _ (List.mem_append_left _ (List.mem_append_right _ h))))) hown hK hP (hts (.fieldLink RX0 19 "TalePlay$Acts" "roads" "LTalePlay$Roads;") (List.mem_cons_of_mem _ (List.mem_append_left _ (List.mem_append_left _ (List.mem_append_left _ (List.mem_append_left _ (List.mem_append_right _ (List.mem_append_left _ (List.mem_of_getElem? (i := 10) rfl))))))))) dX0_reasonToGo_43 ?_
      refine xgT_R_doors hx hb hts (fun _ h => List.mem_cons_of_mem _ (List.mem_append_right _ h)) hown hK hP (hts (.fieldLink RX0 101 "TalePlay$Roads" "doors" "[I") (List.mem_cons_of_mem _ (List.mem_append_left _ (List.mem_append_left _ (List.mem_append_left _ (List.mem_append_left _ (List.mem_append_right _ (List.mem_append_left _ (List.mem_of_getElem? (i := 12) rfl))))))))) dX0_reasonToGo_46 ?_
      refine lv_iload_n hx hb dX0_reasonToGo_49 rfl (lv_at hl 0 rfl) ?_
      refine xlT_130 hx hb hK hP (vp_in_iff.mpr (by have h9 : x5.toInt = ((r3.toInt * 10) + w.toInt) := tx5; omega)) dX0_reasonToGo_50 (fun x8 ex8 => ?_)
      have rx8 : x8.toInt = -9 ∨ (0 ≤ x8.toInt ∧ x8.toInt ≤ 29) := by rw [ex8]; exact hI.2 130 _
      have hdr : (c 130 ((hF (c 150)) (i 156).toInt * 10 + w.toInt).toNat) = x8 := ix_n (f := c 130) (s := x5) (show x5.toInt = (hF (c 150)) (i 156).toInt * 10 + w.toInt from by rw [hho]; have h9 : x5.toInt = ((r3.toInt * 10) + w.toInt) := tx5; omega) ex8
      refine lv_istore_n (lv' := [(3, .int x8), (2, .int x5), (0, .ref (a 155)), (1, .int w)]) hx hb dX0_reasonToGo_51 rfl hl (by decide +kernel) rfl (fun ls hl => ?_)
      refine lv_iload_n hx hb dX0_reasonToGo_52 rfl (lv_at hl 0 rfl) ?_
      refine lv_bipush (v := (-9)) hx hb dX0_reasonToGo_53 (by decide +kernel) ?_
      refine lv_icmp_eq (tgt := 74) hx hb dX0_reasonToGo_55 (by decide +kernel) (fun c9 => ?_) (fun c9 => ?_)
      · have f9 := (ti_eq (a := x8.toInt) (b := (-9)) rfl (by decide +kernel)).mp c9
        refine lv_iconst (v := 0) hx hb dX0_reasonToGo_74 (by decide +kernel) ?_
        exact ro_iret hx hb hr hlocks hS dX0_reasonToGo_75 ⟨(show 0 ≤ (0 : Int32).toInt ∧ (0 : Int32).toInt ≤ 3 from by decide +kernel), (show Im ((0 : Int32).toInt = 0) (AG (c 150) (c 129) (i 156) w) from fun _ => ⟨hby, by rw [ix_n (show x5.toInt = (c 150 (i 156).toNatClampNeg).toInt / 8 % 32 * 10 + w.toInt from by have h9 : x5.toInt = ((r3.toInt * 10) + w.toInt) := tx5; omega) ex6]; omega⟩), (show (0 : Int32).toInt = goV (ByR (zX (c 106) (c 108) (i 111).toInt) (hF (c 150)) (fX (c 150)) (i 156).toInt) (c 129 ((hF (c 150)) (i 156).toInt * 10 + w.toInt).toNat).toInt (c 130 ((hF (c 150)) (i 156).toInt * 10 + w.toInt).toNat).toInt (bT (c 150) 0) from by unfold goV; rw [iV_n (fun h9 => h9 hBy), iV_n (by rw [hld]; omega), iV_n (fun h9 => h9.1 (by rw [hdr]; omega))]; first | done | decide)⟩
      · have f9 := mt (ti_eq (a := x8.toInt) (b := (-9)) rfl (by decide +kernel)).mpr c9
        refine lv_aload_n hx hb dX0_reasonToGo_58 rfl (lv_at hl 2 rfl) ?_
        refine xgT_TA_scene hx hb hts (fun _ h => List.mem_cons_of_mem _ (List.mem_append_left _ (List.mem_append_left _ (List.mem_append_left _ (List.mem_append_right _ h))))) hown hK hP (hts (.fieldLink RX0 33 "TalePlay$Acts" "scene" "LTalePlay$Scene;") (List.mem_cons_of_mem _ (List.mem_append_left _ (List.mem_append_left _ (List.mem_append_left _ (List.mem_append_left _ (List.mem_append_left _ (List.mem_of_getElem? (i := 5) rfl)))))))) dX0_reasonToGo_59 ?_
        refine lv_iload_n hx hb dX0_reasonToGo_62 rfl (lv_at hl 0 rfl) ?_
        refine lv_iconst (v := 0) hx hb dX0_reasonToGo_63 (by decide +kernel) ?_
        refine ro_calli (va_runV (As := [.int x8, .int 0]) (rest := []) ⟨hx, hb, hml, hown, hts⟩ (x_X6_has_eTS l D H.size .null a t i q c d x8 0 hI (show 0 ≤ x8.toInt ∧ x8.toInt ≤ 29 from by have h91 : (0 : Int32).toInt = 0 := (by decide +kernel); omega) (show 0 ≤ 0 ∧ 0 ≤ 5 from by decide +kernel)) (cwV 2 hts gm_X0_reasonToGo_eTA_X6_has_eTS_104 rfl rfl rfl (by decide +kernel) ⟨Nat.le_of_ble_eq_true rfl, Nat.le_of_ble_eq_true rfl⟩) (yA_V hN (xZ_k hZ hS hA) (xkT_P1 hK) (xuT_P1 (sk := sk) hP) (ci := 6) (q0 := 0) rfl rfl) rfl rfl hl.1 rfl (lv_room (Nat.le_of_ble_eq_true rfl)) dX0_reasonToGo_64 ⟨Nat.le_of_ble_eq_true rfl, Nat.le_of_ble_eq_true rfl⟩) hS hA hP (fun r10 u10 H locs hw10 hP hS => ?_)
        have hw10 : ((0 ≤ r10.toInt ∧ r10.toInt ≤ 1) ∧ (Sm r10 (hbt (c 150 x8.toInt.toNat) 0))) := hw10
        obtain ⟨hw10, hr10_0⟩ := hw10
        have hr10_0 : Sm r10 (hbt (c 150 x8.toInt.toNat) 0) := hr10_0
        refine lv_if_ne (tgt := 74) hx hb dX0_reasonToGo_67 (by decide +kernel) (fun c11 => ?_) (fun c11 => ?_)
        · have f11 := mt (ti_eq (a := r10.toInt) (b := 0) rfl (by decide +kernel)).mpr c11
          have s11 := sm_t hr10_0 c11
          refine lv_iconst (v := 0) hx hb dX0_reasonToGo_74 (by decide +kernel) ?_
          exact ro_iret hx hb hr hlocks hS dX0_reasonToGo_75 ⟨(show 0 ≤ (0 : Int32).toInt ∧ (0 : Int32).toInt ≤ 3 from by decide +kernel), (show Im ((0 : Int32).toInt = 0) (AG (c 150) (c 129) (i 156) w) from fun _ => ⟨hby, by rw [ix_n (show x5.toInt = (c 150 (i 156).toNatClampNeg).toInt / 8 % 32 * 10 + w.toInt from by have h9 : x5.toInt = ((r3.toInt * 10) + w.toInt) := tx5; omega) ex6]; omega⟩), (show (0 : Int32).toInt = goV (ByR (zX (c 106) (c 108) (i 111).toInt) (hF (c 150)) (fX (c 150)) (i 156).toInt) (c 129 ((hF (c 150)) (i 156).toInt * 10 + w.toInt).toNat).toInt (c 130 ((hF (c 150)) (i 156).toInt * 10 + w.toInt).toNat).toInt (bT (c 150) 0) from by unfold goV; rw [iV_n (fun h9 => h9 hBy), iV_n (by rw [hld]; omega), iV_n (fun h9 => h9.2 (by rw [hdr]; exact s11))]; first | done | decide)⟩
        · have f11 := (ti_eq (a := r10.toInt) (b := 0) rfl (by decide +kernel)).mp c11
          have s11 := sm_f hr10_0 c11
          refine lv_iconst (v := 3) hx hb dX0_reasonToGo_70 (by decide +kernel) ?_
          refine lv_goto (tgt := 75) hx hb dX0_reasonToGo_71 (by decide +kernel) ?_
          exact ro_iret hx hb hr hlocks hS dX0_reasonToGo_75 ⟨(show 0 ≤ (3 : Int32).toInt ∧ (3 : Int32).toInt ≤ 3 from by decide +kernel), (show Im ((3 : Int32).toInt = 0) (AG (c 150) (c 129) (i 156) w) from fun h9 => absurd h9 (by decide +kernel)), (show (3 : Int32).toInt = goV (ByR (zX (c 106) (c 108) (i 111).toInt) (hF (c 150)) (fX (c 150)) (i 156).toInt) (c 129 ((hF (c 150)) (i 156).toInt * 10 + w.toInt).toNat).toInt (c 130 ((hF (c 150)) (i 156).toInt * 10 + w.toInt).toNat).toInt (bT (c 150) 0) from by unfold goV; rw [iV_n (fun h9 => h9 hBy), iV_n (by rw [hld]; omega), iV_y ⟨by rw [hdr]; omega, by rw [hdr]; exact s11⟩]; first | done | decide)⟩
    · have f7 := (ti_eq (a := x6.toInt) (b := (-9)) rfl (by decide +kernel)).mp c7
      refine lv_iconst (v := 2) hx hb dX0_reasonToGo_40 (by decide +kernel) ?_
      exact ro_iret hx hb hr hlocks hS dX0_reasonToGo_41 ⟨(show 0 ≤ (2 : Int32).toInt ∧ (2 : Int32).toInt ≤ 3 from by decide +kernel), (show Im ((2 : Int32).toInt = 0) (AG (c 150) (c 129) (i 156) w) from fun h9 => absurd h9 (by decide +kernel)), (show (2 : Int32).toInt = goV (ByR (zX (c 106) (c 108) (i 111).toInt) (hF (c 150)) (fX (c 150)) (i 156).toInt) (c 129 ((hF (c 150)) (i 156).toInt * 10 + w.toInt).toNat).toInt (c 130 ((hF (c 150)) (i 156).toInt * 10 + w.toInt).toNat).toInt (bT (c 150) 0) from by unfold goV; rw [iV_n (fun h9 => h9 hBy), iV_y (by rw [hld]; omega)]; first | done | decide)⟩
  · have f2 := (ti_eq (a := r1.toInt) (b := 0) rfl (by decide +kernel)).mp c2
    have s2 := sm_f hr1_0 c2
    refine lv_iconst (v := 1) hx hb dX0_reasonToGo_7 (by decide +kernel) ?_
    exact ro_iret hx hb hr hlocks hS dX0_reasonToGo_8 ⟨(show 0 ≤ (1 : Int32).toInt ∧ (1 : Int32).toInt ≤ 3 from by decide +kernel), (show Im ((1 : Int32).toInt = 0) (AG (c 150) (c 129) (i 156) w) from fun h9 => absurd h9 (by decide +kernel)), (show (1 : Int32).toInt = goV (ByR (zX (c 106) (c 108) (i 111).toInt) (hF (c 150)) (fX (c 150)) (i 156).toInt) (c 129 ((hF (c 150)) (i 156).toInt * 10 + w.toInt).toNat).toInt (c 130 ((hF (c 150)) (i 156).toInt * 10 + w.toInt).toNat).toInt (bT (c 150) 0) from by unfold goV; rw [iV_y s2]; first | done | decide)⟩

def wm_X0_isAnothers_eTA : List Cond := .code yX0_isAnothers cX0_isAnothers 4 (some .boolean) :: ((([.fieldLink RX0 33 "TalePlay$Acts" "scene" "LTalePlay$Scene;", .methodLink RX0 83 yX6_holderOf, .instanceMethod yX6_holderOf, .selects RX6 yX6_holderOf yX6_holderOf, .initialized RX6, .code yX6_holderOf cX6_holderOf 3 (some .int), .fieldLink RX6 9 "TalePlay$Scene" "cells" "[I", .fieldLink RX0 38 "TalePlay$Acts" "player" "I", .fieldLink RX0 9 "TalePlay$Acts" "world" "LTalePlay$World;", .methodLink RX0 86 yX10_sortOf, .instanceMethod yX10_sortOf, .selects RX10 yX10_sortOf yX10_sortOf, .initialized RX10, .code yX10_sortOf cX10_sortOf 2 (some .int), .fieldLink RX10 37 "TalePlay$World" "objects" "I", .fieldLink RX10 15 "TalePlay$World" "sorts" "[I"] : List Cond) ++ ([.fieldLink RX10 21 "TalePlay$World" "kindOf" "[I"] : List Cond)) ++ wsX00 ++ wsX60 ++ wsX100)
set_option maxRecDepth 20000 in
theorem gm_X0_isAnothers_eTA_X6_holderOf_TS_83 : GoodIn wm_X0_isAnothers_eTA (wsV RX0 83 RX6 yX6_holderOf wm_X6_holderOf_TS) := goodIn_w (List.forall_mem_append.mpr ⟨List.forall_mem_cons.mpr ⟨List.mem_cons_of_mem _ (List.mem_append_left _ (List.mem_append_left _ (List.mem_append_left _ (List.mem_append_left _ (List.mem_of_getElem? (i := 1) rfl))))), List.forall_mem_cons.mpr ⟨List.mem_cons_of_mem _ (List.mem_append_left _ (List.mem_append_left _ (List.mem_append_left _ (List.mem_append_left _ (List.mem_of_getElem? (i := 2) rfl))))), List.forall_mem_cons.mpr ⟨List.mem_cons_of_mem _ (List.mem_append_left _ (List.mem_append_left _ (List.mem_append_left _ (List.mem_append_left _ (List.mem_of_getElem? (i := 3) rfl))))), List.forall_mem_cons.mpr ⟨List.mem_cons_of_mem _ (List.mem_append_left _ (List.mem_append_left _ (List.mem_append_left _ (List.mem_append_left _ (List.mem_of_getElem? (i := 4) rfl))))), (fun _ h => absurd h List.not_mem_nil)⟩⟩⟩⟩, List.forall_mem_cons.mpr ⟨List.mem_cons_of_mem _ (List.mem_append_left _ (List.mem_append_left _ (List.mem_append_left _ (List.mem_append_left _ (List.mem_of_getElem? (i := 5) rfl))))), List.forall_mem_append.mpr ⟨List.forall_mem_cons.mpr ⟨List.mem_cons_of_mem _ (List.mem_append_left _ (List.mem_append_left _ (List.mem_append_left _ (List.mem_append_left _ (List.mem_of_getElem? (i := 6) rfl))))), (fun _ h => absurd h List.not_mem_nil)⟩, (fun _ h => List.mem_cons_of_mem _ (List.mem_append_left _ (List.mem_append_right _ h)))⟩⟩⟩) (by decide +kernel)
set_option maxRecDepth 20000 in
theorem gm_X0_isAnothers_eTA_X10_sortOf_e_86 : GoodIn wm_X0_isAnothers_eTA (wsV RX0 86 RX10 yX10_sortOf wm_X10_sortOf_e) := goodIn_w (List.forall_mem_append.mpr ⟨List.forall_mem_cons.mpr ⟨List.mem_cons_of_mem _ (List.mem_append_left _ (List.mem_append_left _ (List.mem_append_left _ (List.mem_append_left _ (List.mem_of_getElem? (i := 9) rfl))))), List.forall_mem_cons.mpr ⟨List.mem_cons_of_mem _ (List.mem_append_left _ (List.mem_append_left _ (List.mem_append_left _ (List.mem_append_left _ (List.mem_of_getElem? (i := 10) rfl))))), List.forall_mem_cons.mpr ⟨List.mem_cons_of_mem _ (List.mem_append_left _ (List.mem_append_left _ (List.mem_append_left _ (List.mem_append_left _ (List.mem_of_getElem? (i := 11) rfl))))), List.forall_mem_cons.mpr ⟨List.mem_cons_of_mem _ (List.mem_append_left _ (List.mem_append_left _ (List.mem_append_left _ (List.mem_append_left _ (List.mem_of_getElem? (i := 12) rfl))))), (fun _ h => absurd h List.not_mem_nil)⟩⟩⟩⟩, List.forall_mem_cons.mpr ⟨List.mem_cons_of_mem _ (List.mem_append_left _ (List.mem_append_left _ (List.mem_append_left _ (List.mem_append_left _ (List.mem_of_getElem? (i := 13) rfl))))), List.forall_mem_append.mpr ⟨List.forall_mem_cons.mpr ⟨List.mem_cons_of_mem _ (List.mem_append_left _ (List.mem_append_left _ (List.mem_append_left _ (List.mem_append_left _ (List.mem_of_getElem? (i := 14) rfl))))), List.forall_mem_cons.mpr ⟨List.mem_cons_of_mem _ (List.mem_append_left _ (List.mem_append_left _ (List.mem_append_left _ (List.mem_append_left _ (List.mem_of_getElem? (i := 15) rfl))))), List.forall_mem_cons.mpr ⟨List.mem_cons_of_mem _ (List.mem_append_left _ (List.mem_append_left _ (List.mem_append_left _ (List.mem_append_right _ (List.mem_of_getElem? (i := 0) rfl))))), (fun _ h => absurd h List.not_mem_nil)⟩⟩⟩, (fun _ h => List.mem_cons_of_mem _ (List.mem_append_right _ h))⟩⟩⟩) (by decide +kernel)
set_option maxHeartbeats 4000000 in
set_option maxRecDepth 100000 in
theorem x_X0_isAnothers_eTA (l : Launch) (D : va_G) (sz : Nat) (sk : Value) (a : Nat → Nat) (t : Nat → ClassId) (i : Nat → Int32) (q : Int64) (c : Nat → Nat → Int32) (d : Nat → Nat → Int64) (w : Int32) (hI : xInv i c) (hw : 0 ≤ w.toInt ∧ w.toInt ≤ 29) (hpl : 0 ≤ (i 156).toInt ∧ (i 156).toInt ≤ 29) : Met l yX0_isAnothers wm_X0_isAnothers_eTA ({ frames := 1, cells := 0, slots := 0, locals := 22 }) (va_Pc [.ref (a 155), .int w] (yA (a 186) D sz (xwT sk a t i q c d) (xtT t))) (va_Qi (fun (r : Int32) (_ : Unit) => ((0 ≤ r.toInt ∧ r.toInt ≤ 1) ∧ (Sm r (AnB (zX (c 106) (c 108) (i 111).toInt) (hF (c 150)) (i 156).toInt 30 ((hF (c 150)) w.toInt))))) oA (ro sz)) 0 0 (ro sz) := by
  refine Met.ofW (cc := cX0_isAnothers) (maxL := 4) (ret := (some .boolean)) (by decide +kernel) rfl ?_
  intro p e s m args below meth cd s₁ B hml hv
  obtain ⟨rfl, ⟨hsz, hP, hK⟩, hN, hZ⟩ := hv
  have hx := B.exec
  have hb := B.bytes
  have hr := B.returns
  have hts := atoms_spec (ws := wm_X0_isAnothers_eTA) B.pre
  have hown : s.vm.findClass RX0 = some m.cls := findClass_of_methodNamed B.named
  have hlocks := B.notSynchronized
  subst hsz
  have hA : ∀ q : Nat, s.heap.size ≤ q → ro s.heap.size q := fun _ h => h
  have hS : va_S (ro s.heap.size) s.heap s.heap [] := va_S.rf
  have hl := lv_entry ([.ref (a 155), .int w]) (n := 4) (Nat.le_of_ble_eq_true rfl)
  rw [lg_entry_eq]
  generalize (lg_sl ([.ref (a 155), .int w]) ++ List.replicate (4 - (lg_sl ([.ref (a 155), .int w])).length) Slot.unset).toArray = ls at hl ⊢
  have hl : lv_has ls 4 [(0, .ref (a 155)), (1, .int w)] := hl
  have rb156_i : (i 156).toInt = -9 ∨ (0 ≤ (i 156).toInt ∧ (i 156).toInt ≤ 29) := hI.1 156
  have rb111_i : 0 ≤ (i 111).toInt ∧ (i 111).toInt ≤ 30 := hI.1 111
  refine lv_aload_n hx hb dX0_isAnothers_0 rfl (lv_at hl 0 rfl) ?_
  refine xgT_TA_scene hx hb hts (fun _ h => List.mem_cons_of_mem _ (List.mem_append_left _ (List.mem_append_left _ (List.mem_append_right _ h)))) hown hK hP (hts (.fieldLink RX0 33 "TalePlay$Acts" "scene" "LTalePlay$Scene;") (List.mem_cons_of_mem _ (List.mem_append_left _ (List.mem_append_left _ (List.mem_append_left _ (List.mem_append_left _ (List.mem_of_getElem? (i := 0) rfl))))))) dX0_isAnothers_1 ?_
  refine lv_iload_n hx hb dX0_isAnothers_4 rfl (lv_at hl 1 rfl) ?_
  refine ro_calli (va_runV (As := [.int w]) (rest := []) ⟨hx, hb, hml, hown, hts⟩ (x_X6_holderOf_TS l D s.heap.size .null a t i q c d w hI (show 0 ≤ w.toInt ∧ w.toInt ≤ 29 from by omega)) (cwV 1 hts gm_X0_isAnothers_eTA_X6_holderOf_TS_83 rfl rfl rfl (by decide +kernel) ⟨Nat.le_of_ble_eq_true rfl, Nat.le_of_ble_eq_true rfl⟩) (yA_V hN (xZ_k hZ hS hA) (xkT_P1 hK) (xuT_P1 (sk := sk) hP) (ci := 6) (q0 := 0) rfl rfl) rfl rfl hl.1 rfl (lv_room (Nat.le_of_ble_eq_true rfl)) dX0_isAnothers_5 ⟨Nat.le_of_ble_eq_true rfl, Nat.le_of_ble_eq_true rfl⟩) hS hA hP (fun r1 u1 H locs hw1 hP hS => ?_)
  have hw1 : ((r1.toInt = -9 ∧ (c 150 w.toNatClampNeg).toInt % 256 = 255) ∨ (0 ≤ r1.toInt ∧ r1.toInt ≤ 29 ∧ ¬ (c 150 w.toNatClampNeg).toInt % 256 = 255 ∧ r1.toInt = (c 150 w.toNatClampNeg).toInt / 8 % 32)) := hw1
  have hh0 : (hF (c 150)) w.toInt = r1.toInt := hF_at (by omega) hw1
  refine lv_istore_n (lv' := [(2, .int r1), (0, .ref (a 155)), (1, .int w)]) hx hb dX0_isAnothers_8 rfl hl (by decide +kernel) rfl (fun ls hl => ?_)
  refine lv_iconst (v := 0) hx hb dX0_isAnothers_9 (by decide +kernel) ?_
  refine lv_istore_n (lv' := [(3, .int 0), (2, .int r1), (0, .ref (a 155)), (1, .int w)]) hx hb dX0_isAnothers_10 rfl hl (by decide +kernel) rfl (fun ls hl => ?_)
  have lp2 : ∀ (fu : Nat) (y2_3 : Int32) (y2_2 : Int32), (0 ≤ y2_3.toInt ∧ y2_3.toInt ≤ 30) → (y2_2.toInt = -9 ∨ (0 ≤ y2_2.toInt ∧ y2_2.toInt ≤ 29)) → (AnB (zX (c 106) (c 108) (i 111).toInt) (hF (c 150)) (i 156).toInt 30 ((hF (c 150)) w.toInt) ↔ AnB (zX (c 106) (c 108) (i 111).toInt) (hF (c 150)) (i 156).toInt (30 - y2_3.toInt.toNat) y2_2.toInt) → (30 - y2_3.toInt).toNat < fu → ∀ (H : Heap) (locs : List Loc) (ls : Array Slot), va_P D vwCl (xwT sk a t i q c d) H → va_S (ro s.heap.size) s.heap H locs → lv_has ls 4 [(3, .int y2_3), (2, .int y2_2), (0, .ref (a 155)), (1, .int w)] → W p l e (headSpec wm_X0_isAnothers_eTA ({ frames := 1, cells := 0, slots := 0, locals := 22 })).room s m ([.ref (a 155), .int w] : List Value).toArray below meth cd H locs 0 0 (MQ below (va_Qi (fun (r : Int32) (_ : Unit) => ((0 ≤ r.toInt ∧ r.toInt ≤ 1) ∧ (Sm r (AnB (zX (c 106) (c 108) (i 111).toInt) (hF (c 150)) (i 156).toInt 30 ((hF (c 150)) w.toInt))))) oA (ro s.heap.size)) ([.ref (a 155), .int w] : List Value).toArray s 0 0 (ro s.heap.size)) (F0 m 11 ls []) := by
    intro fu
    induction fu with
    | zero => intro y2_3 y2_2 hy2_3 hy2_2 hz2_0 hm; exact absurd hm (Nat.not_lt_zero _)
    | succ fu ih =>
      intro y2_3 y2_2 hy2_3 hy2_2 hz2_0 hm H locs ls hP hS hl
      have ih2 := ih
      refine lv_iload_n hx hb dX0_isAnothers_11 rfl (lv_at hl 0 rfl) ?_
      refine lv_bipush (v := 30) hx hb dX0_isAnothers_12 (by decide +kernel) ?_
      refine lv_icmp_ge (tgt := 60) hx hb dX0_isAnothers_14 (by decide +kernel) (fun c3 => ?_) (fun c3 => ?_)
      · have f3 := (ti_le (a := 30) (b := y2_3.toInt) (by decide +kernel) rfl).mp c3
        refine lv_iconst (v := 0) hx hb dX0_isAnothers_60 (by decide +kernel) ?_
        exact ro_zret hx hb hr hlocks hS rfl dX0_isAnothers_61 ⟨(show 0 ≤ (0 : Int32).toInt ∧ (0 : Int32).toInt ≤ 1 from by decide +kernel), (show Sm (0 : Int32) (AnB (zX (c 106) (c 108) (i 111).toInt) (hF (c 150)) (i 156).toInt 30 ((hF (c 150)) w.toInt)) from sm_0 (AnB_x hz2_0 (by omega)))⟩
      · have f3 := mt (ti_le (a := 30) (b := y2_3.toInt) (by decide +kernel) rfl).mpr c3
        refine lv_iload_n hx hb dX0_isAnothers_17 rfl (lv_at hl 1 rfl) ?_
        refine lv_bipush (v := (-9)) hx hb dX0_isAnothers_18 (by decide +kernel) ?_
        refine lv_icmp_eq (tgt := 60) hx hb dX0_isAnothers_20 (by decide +kernel) (fun c4 => ?_) (fun c4 => ?_)
        · have f4 := (ti_eq (a := y2_2.toInt) (b := (-9)) rfl (by decide +kernel)).mp c4
          refine lv_iconst (v := 0) hx hb dX0_isAnothers_60 (by decide +kernel) ?_
          exact ro_zret hx hb hr hlocks hS rfl dX0_isAnothers_61 ⟨(show 0 ≤ (0 : Int32).toInt ∧ (0 : Int32).toInt ≤ 1 from by decide +kernel), (show Sm (0 : Int32) (AnB (zX (c 106) (c 108) (i 111).toInt) (hF (c 150)) (i 156).toInt 30 ((hF (c 150)) w.toInt)) from sm_0 (AnB_x hz2_0 (by omega)))⟩
        · have f4 := mt (ti_eq (a := y2_2.toInt) (b := (-9)) rfl (by decide +kernel)).mpr c4
          refine lv_iload_n hx hb dX0_isAnothers_23 rfl (lv_at hl 1 rfl) ?_
          refine lv_aload_n hx hb dX0_isAnothers_24 rfl (lv_at hl 2 rfl) ?_
          refine xgT_TA_player (v := (i 156)) rfl hx hb hts (fun _ h => List.mem_cons_of_mem _ (List.mem_append_left _ (List.mem_append_left _ (List.mem_append_right _ h)))) hown hK hP (hts (.fieldLink RX0 38 "TalePlay$Acts" "player" "I") (List.mem_cons_of_mem _ (List.mem_append_left _ (List.mem_append_left _ (List.mem_append_left _ (List.mem_append_left _ (List.mem_of_getElem? (i := 7) rfl))))))) dX0_isAnothers_25 ?_
          refine lv_icmp_eq (tgt := 45) hx hb dX0_isAnothers_28 (by decide +kernel) (fun c5 => ?_) (fun c5 => ?_)
          · have f5 := (ti_eq (a := y2_2.toInt) (b := (i 156).toInt) rfl rfl).mp c5
            refine lv_aload_n hx hb dX0_isAnothers_45 rfl (lv_at hl 2 rfl) ?_
            refine xgT_TA_scene hx hb hts (fun _ h => List.mem_cons_of_mem _ (List.mem_append_left _ (List.mem_append_left _ (List.mem_append_right _ h)))) hown hK hP (hts (.fieldLink RX0 33 "TalePlay$Acts" "scene" "LTalePlay$Scene;") (List.mem_cons_of_mem _ (List.mem_append_left _ (List.mem_append_left _ (List.mem_append_left _ (List.mem_append_left _ (List.mem_of_getElem? (i := 0) rfl))))))) dX0_isAnothers_46 ?_
            refine lv_iload_n hx hb dX0_isAnothers_49 rfl (lv_at hl 1 rfl) ?_
            refine ro_calli (va_runV (As := [.int y2_2]) (rest := []) ⟨hx, hb, hml, hown, hts⟩ (x_X6_holderOf_TS l D H.size .null a t i q c d y2_2 hI (show 0 ≤ y2_2.toInt ∧ y2_2.toInt ≤ 29 from by omega)) (cwV 1 hts gm_X0_isAnothers_eTA_X6_holderOf_TS_83 rfl rfl rfl (by decide +kernel) ⟨Nat.le_of_ble_eq_true rfl, Nat.le_of_ble_eq_true rfl⟩) (yA_V hN (xZ_k hZ hS hA) (xkT_P1 hK) (xuT_P1 (sk := sk) hP) (ci := 6) (q0 := 0) rfl rfl) rfl rfl hl.1 rfl (lv_room (Nat.le_of_ble_eq_true rfl)) dX0_isAnothers_50 ⟨Nat.le_of_ble_eq_true rfl, Nat.le_of_ble_eq_true rfl⟩) hS hA hP (fun r6 u6 H locs hw6 hP hS => ?_)
            have hw6 : ((r6.toInt = -9 ∧ (c 150 y2_2.toNatClampNeg).toInt % 256 = 255) ∨ (0 ≤ r6.toInt ∧ r6.toInt ≤ 29 ∧ ¬ (c 150 y2_2.toNatClampNeg).toInt % 256 = 255 ∧ r6.toInt = (c 150 y2_2.toNatClampNeg).toInt / 8 % 32)) := hw6
            have hh1 : (hF (c 150)) y2_2.toInt = r6.toInt := hF_at (by omega) hw6
            refine lv_istore_n (lv' := [(2, .int r6), (3, .int y2_3), (0, .ref (a 155)), (1, .int w)]) hx hb dX0_isAnothers_53 rfl hl (by decide +kernel) rfl (fun ls hl => ?_)
            obtain ⟨x7, ex7⟩ : ∃ y : Int32, y = y2_3 + 1 := ⟨_, rfl⟩
            have tx7 := ti_add (a := y2_3.toInt) (b := 1) ex7 rfl (by decide +kernel) (by omega) (by omega)
            refine lv_iinc (v := x7) (lv' := [(3, .int x7), (2, .int r6), (0, .ref (a 155)), (1, .int w)]) hx hb dX0_isAnothers_54 hl (k := 1) rfl (by rw [ex7]; rfl) (by decide +kernel) rfl (fun ls hl => ?_)
            refine lv_goto (tgt := 11) hx hb dX0_isAnothers_57 (by decide +kernel) ?_
            exact ih2 x7 r6 (show 0 ≤ x7.toInt ∧ x7.toInt ≤ 30 from by have h50 : x7.toInt = (y2_3.toInt + 1) := tx7; omega) (show r6.toInt = -9 ∨ (0 ≤ r6.toInt ∧ r6.toInt ≤ 29) from by have h50 : x7.toInt = (y2_3.toInt + 1) := tx7; omega) (show AnB (zX (c 106) (c 108) (i 111).toInt) (hF (c 150)) (i 156).toInt 30 ((hF (c 150)) w.toInt) ↔ AnB (zX (c 106) (c 108) (i 111).toInt) (hF (c 150)) (i 156).toInt (30 - x7.toInt.toNat) r6.toInt from AnB_s hz2_0 (by omega) tx7 (by omega) (fun h9 => by have h8 := h9.1; omega) hh1) (by have h50 : x7.toInt = (y2_3.toInt + 1) := tx7; omega) _ _ _ hP hS (lv_sub hl [0, 1, 2, 3] rfl)
          · have f5 := mt (ti_eq (a := y2_2.toInt) (b := (i 156).toInt) rfl rfl).mpr c5
            refine lv_aload_n hx hb dX0_isAnothers_31 rfl (lv_at hl 2 rfl) ?_
            refine xgT_TA_world hx hb hts (fun _ h => List.mem_cons_of_mem _ (List.mem_append_left _ (List.mem_append_left _ (List.mem_append_right _ h)))) hown hK hP (hts (.fieldLink RX0 9 "TalePlay$Acts" "world" "LTalePlay$World;") (List.mem_cons_of_mem _ (List.mem_append_left _ (List.mem_append_left _ (List.mem_append_left _ (List.mem_append_left _ (List.mem_of_getElem? (i := 8) rfl))))))) dX0_isAnothers_32 ?_
            refine lv_iload_n hx hb dX0_isAnothers_35 rfl (lv_at hl 1 rfl) ?_
            refine ro_calli (va_runV (As := [.int y2_2]) (rest := []) ⟨hx, hb, hml, hown, hts⟩ (x_X10_sortOf_e l D H.size .null a t i q c d y2_2 hI ) (cwV 1 hts gm_X0_isAnothers_eTA_X10_sortOf_e_86 rfl rfl rfl (by decide +kernel) ⟨Nat.le_of_ble_eq_true rfl, Nat.le_of_ble_eq_true rfl⟩) (yA_V hN (xZ_k hZ hS hA) (xkT_W hK) (xuT_W (sk := sk) hP) (ci := 10) (q0 := 0) rfl rfl) rfl rfl hl.1 rfl (lv_room (Nat.le_of_ble_eq_true rfl)) dX0_isAnothers_36 ⟨Nat.le_of_ble_eq_true rfl, Nat.le_of_ble_eq_true rfl⟩) hS hA hP (fun r8 u8 H locs hw8 hP hS => ?_)
            have hw8 : (((r8.toInt = -9 ∧ ¬ (0 ≤ y2_2.toInt ∧ y2_2.toInt < (i 111).toInt)) ∨ (0 ≤ r8.toInt ∧ r8.toInt ≤ 5 ∧ 0 ≤ y2_2.toInt ∧ y2_2.toInt < (i 111).toInt)) ∧ (SO (c 106) (c 108) (i 111).toInt y2_2.toInt r8.toInt)) := hw8
            obtain ⟨hw8, hr8_0⟩ := hw8
            have hr8_0 : SO (c 106) (c 108) (i 111).toInt y2_2.toInt r8.toInt := hr8_0
            have hzo : r8.toInt = (zX (c 106) (c 108) (i 111).toInt) y2_2.toInt := SO_z hr8_0
            refine lv_iconst (v := 5) hx hb dX0_isAnothers_39 (by decide +kernel) ?_
            refine lv_icmp_ne (tgt := 45) hx hb dX0_isAnothers_40 (by decide +kernel) (fun c9 => ?_) (fun c9 => ?_)
            · have f9 := mt (ti_eq (a := r8.toInt) (b := 5) rfl (by decide +kernel)).mpr c9
              refine lv_aload_n hx hb dX0_isAnothers_45 rfl (lv_at hl 2 rfl) ?_
              refine xgT_TA_scene hx hb hts (fun _ h => List.mem_cons_of_mem _ (List.mem_append_left _ (List.mem_append_left _ (List.mem_append_right _ h)))) hown hK hP (hts (.fieldLink RX0 33 "TalePlay$Acts" "scene" "LTalePlay$Scene;") (List.mem_cons_of_mem _ (List.mem_append_left _ (List.mem_append_left _ (List.mem_append_left _ (List.mem_append_left _ (List.mem_of_getElem? (i := 0) rfl))))))) dX0_isAnothers_46 ?_
              refine lv_iload_n hx hb dX0_isAnothers_49 rfl (lv_at hl 1 rfl) ?_
              refine ro_calli (va_runV (As := [.int y2_2]) (rest := []) ⟨hx, hb, hml, hown, hts⟩ (x_X6_holderOf_TS l D H.size .null a t i q c d y2_2 hI (show 0 ≤ y2_2.toInt ∧ y2_2.toInt ≤ 29 from by omega)) (cwV 1 hts gm_X0_isAnothers_eTA_X6_holderOf_TS_83 rfl rfl rfl (by decide +kernel) ⟨Nat.le_of_ble_eq_true rfl, Nat.le_of_ble_eq_true rfl⟩) (yA_V hN (xZ_k hZ hS hA) (xkT_P1 hK) (xuT_P1 (sk := sk) hP) (ci := 6) (q0 := 0) rfl rfl) rfl rfl hl.1 rfl (lv_room (Nat.le_of_ble_eq_true rfl)) dX0_isAnothers_50 ⟨Nat.le_of_ble_eq_true rfl, Nat.le_of_ble_eq_true rfl⟩) hS hA hP (fun r10 u10 H locs hw10 hP hS => ?_)
              have hw10 : ((r10.toInt = -9 ∧ (c 150 y2_2.toNatClampNeg).toInt % 256 = 255) ∨ (0 ≤ r10.toInt ∧ r10.toInt ≤ 29 ∧ ¬ (c 150 y2_2.toNatClampNeg).toInt % 256 = 255 ∧ r10.toInt = (c 150 y2_2.toNatClampNeg).toInt / 8 % 32)) := hw10
              have hh1 : (hF (c 150)) y2_2.toInt = r10.toInt := hF_at (by omega) hw10
              refine lv_istore_n (lv' := [(2, .int r10), (3, .int y2_3), (0, .ref (a 155)), (1, .int w)]) hx hb dX0_isAnothers_53 rfl hl (by decide +kernel) rfl (fun ls hl => ?_)
              obtain ⟨x11, ex11⟩ : ∃ y : Int32, y = y2_3 + 1 := ⟨_, rfl⟩
              have tx11 := ti_add (a := y2_3.toInt) (b := 1) ex11 rfl (by decide +kernel) (by omega) (by omega)
              refine lv_iinc (v := x11) (lv' := [(3, .int x11), (2, .int r10), (0, .ref (a 155)), (1, .int w)]) hx hb dX0_isAnothers_54 hl (k := 1) rfl (by rw [ex11]; rfl) (by decide +kernel) rfl (fun ls hl => ?_)
              refine lv_goto (tgt := 11) hx hb dX0_isAnothers_57 (by decide +kernel) ?_
              exact ih2 x11 r10 (show 0 ≤ x11.toInt ∧ x11.toInt ≤ 30 from by have h50 : x11.toInt = (y2_3.toInt + 1) := tx11; omega) (show r10.toInt = -9 ∨ (0 ≤ r10.toInt ∧ r10.toInt ≤ 29) from by have h50 : x11.toInt = (y2_3.toInt + 1) := tx11; omega) (show AnB (zX (c 106) (c 108) (i 111).toInt) (hF (c 150)) (i 156).toInt 30 ((hF (c 150)) w.toInt) ↔ AnB (zX (c 106) (c 108) (i 111).toInt) (hF (c 150)) (i 156).toInt (30 - x11.toInt.toNat) r10.toInt from AnB_s hz2_0 (by omega) tx11 (by omega) (fun h9 => by have h8 := h9.2; omega) hh1) (by have h50 : x11.toInt = (y2_3.toInt + 1) := tx11; omega) _ _ _ hP hS (lv_sub hl [0, 1, 2, 3] rfl)
            · have f9 := (ti_eq (a := r8.toInt) (b := 5) rfl (by decide +kernel)).mp c9
              refine lv_iconst (v := 1) hx hb dX0_isAnothers_43 (by decide +kernel) ?_
              exact ro_zret hx hb hr hlocks hS rfl dX0_isAnothers_44 ⟨(show 0 ≤ (1 : Int32).toInt ∧ (1 : Int32).toInt ≤ 1 from by decide +kernel), (show Sm (1 : Int32) (AnB (zX (c 106) (c 108) (i 111).toInt) (hF (c 150)) (i 156).toInt 30 ((hF (c 150)) w.toInt)) from sm_1 (AnB_y hz2_0 (by omega) (by omega) ⟨by omega, by omega⟩))⟩
  exact lp2 _ (0 : Int32) r1 (show 0 ≤ (0 : Int32).toInt ∧ (0 : Int32).toInt ≤ 30 from by decide +kernel) (show r1.toInt = -9 ∨ (0 ≤ r1.toInt ∧ r1.toInt ≤ 29) from by have h50 : (0 : Int32).toInt = 0 := (by decide +kernel); omega) (show AnB (zX (c 106) (c 108) (i 111).toInt) (hF (c 150)) (i 156).toInt 30 ((hF (c 150)) w.toInt) ↔ AnB (zX (c 106) (c 108) (i 111).toInt) (hF (c 150)) (i 156).toInt (30 - (0 : Int32).toInt.toNat) r1.toInt from AnB_e (by decide +kernel) hh0) (Nat.lt_succ_self _) _ _ _ hP hS (lv_sub hl [0, 1, 2, 3] rfl)

def wm_X0_reasonToPut_eTA : List Cond := .code yX0_reasonToPut cX0_reasonToPut 4 (some .int) :: ((([.fieldLink RX0 34 "TalePlay$Acts" "sight" "LTalePlay$Sight;", .fieldLink RX0 108 "TalePlay$Sight" "seen" "[Z", .fieldLink RX0 9 "TalePlay$Acts" "world" "LTalePlay$World;", .methodLink RX0 86 yX10_sortOf, .instanceMethod yX10_sortOf, .selects RX10 yX10_sortOf yX10_sortOf, .initialized RX10, .code yX10_sortOf cX10_sortOf 2 (some .int), .fieldLink RX10 37 "TalePlay$World" "objects" "I", .fieldLink RX10 15 "TalePlay$World" "sorts" "[I", .fieldLink RX10 21 "TalePlay$World" "kindOf" "[I", .fieldLink RX0 33 "TalePlay$Acts" "scene" "LTalePlay$Scene;", .methodLink RX0 112 yX6_isUp, .instanceMethod yX6_isUp, .selects RX6 yX6_isUp yX6_isUp, .initialized RX6] : List Cond) ++ (([.code yX6_isUp cX6_isUp 5 (some .boolean), .methodLink RX6 25 yX6_holderOf, .instanceMethod yX6_holderOf, .selects RX6 yX6_holderOf yX6_holderOf, .code yX6_holderOf cX6_holderOf 3 (some .int), .fieldLink RX6 9 "TalePlay$Scene" "cells" "[I", .fieldLink RX0 118 "TalePlay$Sight" "reached" "[Z", .methodLink RX0 134 yX6_countOf, .instanceMethod yX6_countOf, .selects RX6 yX6_countOf yX6_countOf, .code yX6_countOf cX6_countOf 5 (some .int), .fieldLink RX6 15 "TalePlay$Scene" "world" "LTalePlay$World;", .fieldLink RX6 34 "TalePlay$World" "objects" "I", .methodLink RX6 38 yX6_lies, .instanceMethod yX6_lies, .selects RX6 yX6_lies yX6_lies] : List Cond) ++ ([.code yX6_lies cX6_lies 4 (some .boolean), .methodLink RX0 104 yX6_has, .instanceMethod yX6_has, .selects RX6 yX6_has yX6_has, .code yX6_has cX6_has 3 (some .boolean)] : List Cond))) ++ wsX00 ++ wsX80 ++ wsX100 ++ wsX60)
set_option maxRecDepth 20000 in
theorem gm_X0_reasonToPut_eTA_X10_sortOf_e_86 : GoodIn wm_X0_reasonToPut_eTA (wsV RX0 86 RX10 yX10_sortOf wm_X10_sortOf_e) := goodIn_w (List.forall_mem_append.mpr ⟨List.forall_mem_cons.mpr ⟨List.mem_cons_of_mem _ (List.mem_append_left _ (List.mem_append_left _ (List.mem_append_left _ (List.mem_append_left _ (List.mem_append_left _ (List.mem_of_getElem? (i := 3) rfl)))))), List.forall_mem_cons.mpr ⟨List.mem_cons_of_mem _ (List.mem_append_left _ (List.mem_append_left _ (List.mem_append_left _ (List.mem_append_left _ (List.mem_append_left _ (List.mem_of_getElem? (i := 4) rfl)))))), List.forall_mem_cons.mpr ⟨List.mem_cons_of_mem _ (List.mem_append_left _ (List.mem_append_left _ (List.mem_append_left _ (List.mem_append_left _ (List.mem_append_left _ (List.mem_of_getElem? (i := 5) rfl)))))), List.forall_mem_cons.mpr ⟨List.mem_cons_of_mem _ (List.mem_append_left _ (List.mem_append_left _ (List.mem_append_left _ (List.mem_append_left _ (List.mem_append_left _ (List.mem_of_getElem? (i := 6) rfl)))))), (fun _ h => absurd h List.not_mem_nil)⟩⟩⟩⟩, List.forall_mem_cons.mpr ⟨List.mem_cons_of_mem _ (List.mem_append_left _ (List.mem_append_left _ (List.mem_append_left _ (List.mem_append_left _ (List.mem_append_left _ (List.mem_of_getElem? (i := 7) rfl)))))), List.forall_mem_append.mpr ⟨List.forall_mem_cons.mpr ⟨List.mem_cons_of_mem _ (List.mem_append_left _ (List.mem_append_left _ (List.mem_append_left _ (List.mem_append_left _ (List.mem_append_left _ (List.mem_of_getElem? (i := 8) rfl)))))), List.forall_mem_cons.mpr ⟨List.mem_cons_of_mem _ (List.mem_append_left _ (List.mem_append_left _ (List.mem_append_left _ (List.mem_append_left _ (List.mem_append_left _ (List.mem_of_getElem? (i := 9) rfl)))))), List.forall_mem_cons.mpr ⟨List.mem_cons_of_mem _ (List.mem_append_left _ (List.mem_append_left _ (List.mem_append_left _ (List.mem_append_left _ (List.mem_append_left _ (List.mem_of_getElem? (i := 10) rfl)))))), (fun _ h => absurd h List.not_mem_nil)⟩⟩⟩, (fun _ h => List.mem_cons_of_mem _ (List.mem_append_left _ (List.mem_append_right _ h)))⟩⟩⟩) (by decide +kernel)
set_option maxRecDepth 20000 in
theorem gm_X0_reasonToPut_eTA_X6_isUp_eTS_112 : GoodIn wm_X0_reasonToPut_eTA (wsV RX0 112 RX6 yX6_isUp wm_X6_isUp_eTS) := goodIn_w (List.forall_mem_append.mpr ⟨List.forall_mem_cons.mpr ⟨List.mem_cons_of_mem _ (List.mem_append_left _ (List.mem_append_left _ (List.mem_append_left _ (List.mem_append_left _ (List.mem_append_left _ (List.mem_of_getElem? (i := 12) rfl)))))), List.forall_mem_cons.mpr ⟨List.mem_cons_of_mem _ (List.mem_append_left _ (List.mem_append_left _ (List.mem_append_left _ (List.mem_append_left _ (List.mem_append_left _ (List.mem_of_getElem? (i := 13) rfl)))))), List.forall_mem_cons.mpr ⟨List.mem_cons_of_mem _ (List.mem_append_left _ (List.mem_append_left _ (List.mem_append_left _ (List.mem_append_left _ (List.mem_append_left _ (List.mem_of_getElem? (i := 14) rfl)))))), List.forall_mem_cons.mpr ⟨List.mem_cons_of_mem _ (List.mem_append_left _ (List.mem_append_left _ (List.mem_append_left _ (List.mem_append_left _ (List.mem_append_left _ (List.mem_of_getElem? (i := 15) rfl)))))), (fun _ h => absurd h List.not_mem_nil)⟩⟩⟩⟩, List.forall_mem_cons.mpr ⟨List.mem_cons_of_mem _ (List.mem_append_left _ (List.mem_append_left _ (List.mem_append_left _ (List.mem_append_left _ (List.mem_append_right _ (List.mem_append_left _ (List.mem_of_getElem? (i := 0) rfl))))))), List.forall_mem_append.mpr ⟨List.forall_mem_cons.mpr ⟨List.mem_cons_of_mem _ (List.mem_append_left _ (List.mem_append_left _ (List.mem_append_left _ (List.mem_append_left _ (List.mem_append_right _ (List.mem_append_left _ (List.mem_of_getElem? (i := 1) rfl))))))), List.forall_mem_cons.mpr ⟨List.mem_cons_of_mem _ (List.mem_append_left _ (List.mem_append_left _ (List.mem_append_left _ (List.mem_append_left _ (List.mem_append_right _ (List.mem_append_left _ (List.mem_of_getElem? (i := 2) rfl))))))), List.forall_mem_cons.mpr ⟨List.mem_cons_of_mem _ (List.mem_append_left _ (List.mem_append_left _ (List.mem_append_left _ (List.mem_append_left _ (List.mem_append_right _ (List.mem_append_left _ (List.mem_of_getElem? (i := 3) rfl))))))), List.forall_mem_cons.mpr ⟨List.mem_cons_of_mem _ (List.mem_append_left _ (List.mem_append_left _ (List.mem_append_left _ (List.mem_append_left _ (List.mem_append_left _ (List.mem_of_getElem? (i := 15) rfl)))))), List.forall_mem_cons.mpr ⟨List.mem_cons_of_mem _ (List.mem_append_left _ (List.mem_append_left _ (List.mem_append_left _ (List.mem_append_left _ (List.mem_append_right _ (List.mem_append_left _ (List.mem_of_getElem? (i := 4) rfl))))))), List.forall_mem_cons.mpr ⟨List.mem_cons_of_mem _ (List.mem_append_left _ (List.mem_append_left _ (List.mem_append_left _ (List.mem_append_left _ (List.mem_append_right _ (List.mem_append_left _ (List.mem_of_getElem? (i := 5) rfl))))))), (fun _ h => absurd h List.not_mem_nil)⟩⟩⟩⟩⟩⟩, (fun _ h => List.mem_cons_of_mem _ (List.mem_append_right _ h))⟩⟩⟩) (by decide +kernel)
set_option maxRecDepth 20000 in
theorem gm_X0_reasonToPut_eTA_X6_countOf_eTS_134 : GoodIn wm_X0_reasonToPut_eTA (wsV RX0 134 RX6 yX6_countOf wm_X6_countOf_eTS) := goodIn_w (List.forall_mem_append.mpr ⟨List.forall_mem_cons.mpr ⟨List.mem_cons_of_mem _ (List.mem_append_left _ (List.mem_append_left _ (List.mem_append_left _ (List.mem_append_left _ (List.mem_append_right _ (List.mem_append_left _ (List.mem_of_getElem? (i := 7) rfl))))))), List.forall_mem_cons.mpr ⟨List.mem_cons_of_mem _ (List.mem_append_left _ (List.mem_append_left _ (List.mem_append_left _ (List.mem_append_left _ (List.mem_append_right _ (List.mem_append_left _ (List.mem_of_getElem? (i := 8) rfl))))))), List.forall_mem_cons.mpr ⟨List.mem_cons_of_mem _ (List.mem_append_left _ (List.mem_append_left _ (List.mem_append_left _ (List.mem_append_left _ (List.mem_append_right _ (List.mem_append_left _ (List.mem_of_getElem? (i := 9) rfl))))))), List.forall_mem_cons.mpr ⟨List.mem_cons_of_mem _ (List.mem_append_left _ (List.mem_append_left _ (List.mem_append_left _ (List.mem_append_left _ (List.mem_append_left _ (List.mem_of_getElem? (i := 15) rfl)))))), (fun _ h => absurd h List.not_mem_nil)⟩⟩⟩⟩, List.forall_mem_cons.mpr ⟨List.mem_cons_of_mem _ (List.mem_append_left _ (List.mem_append_left _ (List.mem_append_left _ (List.mem_append_left _ (List.mem_append_right _ (List.mem_append_left _ (List.mem_of_getElem? (i := 10) rfl))))))), List.forall_mem_append.mpr ⟨List.forall_mem_append.mpr ⟨List.forall_mem_cons.mpr ⟨List.mem_cons_of_mem _ (List.mem_append_left _ (List.mem_append_left _ (List.mem_append_left _ (List.mem_append_left _ (List.mem_append_right _ (List.mem_append_left _ (List.mem_of_getElem? (i := 11) rfl))))))), List.forall_mem_cons.mpr ⟨List.mem_cons_of_mem _ (List.mem_append_left _ (List.mem_append_left _ (List.mem_append_left _ (List.mem_append_left _ (List.mem_append_right _ (List.mem_append_left _ (List.mem_of_getElem? (i := 12) rfl))))))), List.forall_mem_cons.mpr ⟨List.mem_cons_of_mem _ (List.mem_append_left _ (List.mem_append_left _ (List.mem_append_left _ (List.mem_append_left _ (List.mem_append_right _ (List.mem_append_left _ (List.mem_of_getElem? (i := 13) rfl))))))), List.forall_mem_cons.mpr ⟨List.mem_cons_of_mem _ (List.mem_append_left _ (List.mem_append_left _ (List.mem_append_left _ (List.mem_append_left _ (List.mem_append_right _ (List.mem_append_left _ (List.mem_of_getElem? (i := 14) rfl))))))), List.forall_mem_cons.mpr ⟨List.mem_cons_of_mem _ (List.mem_append_left _ (List.mem_append_left _ (List.mem_append_left _ (List.mem_append_left _ (List.mem_append_right _ (List.mem_append_left _ (List.mem_of_getElem? (i := 15) rfl))))))), List.forall_mem_cons.mpr ⟨List.mem_cons_of_mem _ (List.mem_append_left _ (List.mem_append_left _ (List.mem_append_left _ (List.mem_append_left _ (List.mem_append_left _ (List.mem_of_getElem? (i := 15) rfl)))))), List.forall_mem_cons.mpr ⟨List.mem_cons_of_mem _ (List.mem_append_left _ (List.mem_append_left _ (List.mem_append_left _ (List.mem_append_left _ (List.mem_append_right _ (List.mem_append_right _ (List.mem_of_getElem? (i := 0) rfl))))))), List.forall_mem_cons.mpr ⟨List.mem_cons_of_mem _ (List.mem_append_left _ (List.mem_append_left _ (List.mem_append_left _ (List.mem_append_left _ (List.mem_append_right _ (List.mem_append_left _ (List.mem_of_getElem? (i := 5) rfl))))))), (fun _ h => absurd h List.not_mem_nil)⟩⟩⟩⟩⟩⟩⟩⟩, (fun _ h => List.mem_cons_of_mem _ (List.mem_append_right _ h))⟩, (fun _ h => List.mem_cons_of_mem _ (List.mem_append_left _ (List.mem_append_right _ h)))⟩⟩⟩) (by decide +kernel)
set_option maxRecDepth 20000 in
theorem gm_X0_reasonToPut_eTA_X6_has_eTS_104 : GoodIn wm_X0_reasonToPut_eTA (wsV RX0 104 RX6 yX6_has wm_X6_has_eTS) := goodIn_w (List.forall_mem_append.mpr ⟨List.forall_mem_cons.mpr ⟨List.mem_cons_of_mem _ (List.mem_append_left _ (List.mem_append_left _ (List.mem_append_left _ (List.mem_append_left _ (List.mem_append_right _ (List.mem_append_right _ (List.mem_of_getElem? (i := 1) rfl))))))), List.forall_mem_cons.mpr ⟨List.mem_cons_of_mem _ (List.mem_append_left _ (List.mem_append_left _ (List.mem_append_left _ (List.mem_append_left _ (List.mem_append_right _ (List.mem_append_right _ (List.mem_of_getElem? (i := 2) rfl))))))), List.forall_mem_cons.mpr ⟨List.mem_cons_of_mem _ (List.mem_append_left _ (List.mem_append_left _ (List.mem_append_left _ (List.mem_append_left _ (List.mem_append_right _ (List.mem_append_right _ (List.mem_of_getElem? (i := 3) rfl))))))), List.forall_mem_cons.mpr ⟨List.mem_cons_of_mem _ (List.mem_append_left _ (List.mem_append_left _ (List.mem_append_left _ (List.mem_append_left _ (List.mem_append_left _ (List.mem_of_getElem? (i := 15) rfl)))))), (fun _ h => absurd h List.not_mem_nil)⟩⟩⟩⟩, List.forall_mem_cons.mpr ⟨List.mem_cons_of_mem _ (List.mem_append_left _ (List.mem_append_left _ (List.mem_append_left _ (List.mem_append_left _ (List.mem_append_right _ (List.mem_append_right _ (List.mem_of_getElem? (i := 4) rfl))))))), List.forall_mem_append.mpr ⟨List.forall_mem_cons.mpr ⟨List.mem_cons_of_mem _ (List.mem_append_left _ (List.mem_append_left _ (List.mem_append_left _ (List.mem_append_left _ (List.mem_append_right _ (List.mem_append_left _ (List.mem_of_getElem? (i := 5) rfl))))))), (fun _ h => absurd h List.not_mem_nil)⟩, (fun _ h => List.mem_cons_of_mem _ (List.mem_append_right _ h))⟩⟩⟩) (by decide +kernel)
set_option maxHeartbeats 4000000 in
set_option maxRecDepth 100000 in
theorem x_X0_reasonToPut_eTA (l : Launch) (D : va_G) (sz : Nat) (sk : Value) (a : Nat → Nat) (t : Nat → ClassId) (i : Nat → Int32) (q : Int64) (c : Nat → Nat → Int32) (d : Nat → Nat → Int64) (w1 : Int32) (f : Int32) (w2 : Int32) (hI : xInv i c) (hw1 : 0 ≤ w1.toInt ∧ w1.toInt ≤ 29) (hw2 : 0 ≤ w2.toInt ∧ w2.toInt ≤ 29) (hf : 0 ≤ f.toInt ∧ f.toInt ≤ 1) : Met l yX0_reasonToPut wm_X0_reasonToPut_eTA ({ frames := 2, cells := 0, slots := 0, locals := 47 }) (va_Pc [.ref (a 155), .int w1, .int f, .int w2] (yA (a 186) D sz (xwT sk a t i q c d) (xtT t))) (va_Qi (fun (r : Int32) (_ : Unit) => ((0 ≤ r.toInt ∧ r.toInt ≤ 14) ∧ (r.toInt = putV ((c 152 w2.toInt.toNat).toInt = 1) (((f.toInt : Int) = 0 ∧ (zX (c 106) (c 108) (i 111).toInt) w2.toInt = 3) ∨ (¬ (f.toInt : Int) = 0 ∧ (zX (c 106) (c 108) (i 111).toInt) w2.toInt = 4)) (w2.toInt = w1.toInt ∨ ChB 30 (hF (c 150)) ((hF (c 150)) w2.toInt) w1.toInt) ((f.toInt : Int) = 0 ∧ ¬ (bT (c 150) 0) w2.toInt) ((c 153 w2.toInt.toNat).toInt = 1) (8 ≤ ((cnt (lsP (c 150) f.toInt w2.toInt) (i 111).toInt.toNat : Nat) : Int))))) oA (ro sz)) 0 0 (ro sz) := by
  refine Met.ofW (cc := cX0_reasonToPut) (maxL := 4) (ret := (some .int)) (by decide +kernel) rfl ?_
  intro p e s m args below meth cd s₁ B hml hv
  obtain ⟨rfl, ⟨hsz, hP, hK⟩, hN, hZ⟩ := hv
  have hx := B.exec
  have hb := B.bytes
  have hr := B.returns
  have hts := atoms_spec (ws := wm_X0_reasonToPut_eTA) B.pre
  have hown : s.vm.findClass RX0 = some m.cls := findClass_of_methodNamed B.named
  have hlocks := B.notSynchronized
  subst hsz
  have hA : ∀ q : Nat, s.heap.size ≤ q → ro s.heap.size q := fun _ h => h
  have hS : va_S (ro s.heap.size) s.heap s.heap [] := va_S.rf
  have hl := lv_entry ([.ref (a 155), .int w1, .int f, .int w2]) (n := 4) (Nat.le_of_ble_eq_true rfl)
  rw [lg_entry_eq]
  generalize (lg_sl ([.ref (a 155), .int w1, .int f, .int w2]) ++ List.replicate (4 - (lg_sl ([.ref (a 155), .int w1, .int f, .int w2])).length) Slot.unset).toArray = ls at hl ⊢
  have hl : lv_has ls 4 [(0, .ref (a 155)), (1, .int w1), (2, .int f), (3, .int w2)] := hl
  have rb111_i : 0 ≤ (i 111).toInt ∧ (i 111).toInt ≤ 30 := hI.1 111
  refine lv_aload_n hx hb dX0_reasonToPut_0 rfl (lv_at hl 0 rfl) ?_
  refine xgT_TA_sight hx hb hts (fun _ h => List.mem_cons_of_mem _ (List.mem_append_left _ (List.mem_append_left _ (List.mem_append_left _ (List.mem_append_right _ h))))) hown hK hP (hts (.fieldLink RX0 34 "TalePlay$Acts" "sight" "LTalePlay$Sight;") (List.mem_cons_of_mem _ (List.mem_append_left _ (List.mem_append_left _ (List.mem_append_left _ (List.mem_append_left _ (List.mem_append_left _ (List.mem_of_getElem? (i := 0) rfl)))))))) dX0_reasonToPut_1 ?_
  refine xgT_TG_seen hx hb hts (fun _ h => List.mem_cons_of_mem _ (List.mem_append_left _ (List.mem_append_left _ (List.mem_append_right _ h)))) hown hK hP (hts (.fieldLink RX0 108 "TalePlay$Sight" "seen" "[Z") (List.mem_cons_of_mem _ (List.mem_append_left _ (List.mem_append_left _ (List.mem_append_left _ (List.mem_append_left _ (List.mem_append_left _ (List.mem_of_getElem? (i := 1) rfl)))))))) dX0_reasonToPut_4 ?_
  refine lv_iload_n hx hb dX0_reasonToPut_7 rfl (lv_at hl 3 rfl) ?_
  refine xlT_152 hx hb hK hP (vp_in_iff.mpr (by have h9 : w2.toInt = w2.toInt := rfl; omega)) dX0_reasonToPut_8 (fun x1 ex1 => ?_)
  have rx1 : 0 ≤ x1.toInt ∧ x1.toInt ≤ 1 := by rw [ex1]; exact hI.2 152 _
  have gx1 : (c 152 (w2 : Int32).toNatClampNeg).toInt = x1.toInt := (congrArg Int32.toInt ex1).symm
  have hsn : (c 152 w2.toInt.toNat).toInt = x1.toInt := gx1
  refine lv_if_ne (tgt := 14) hx hb dX0_reasonToPut_9 (by decide +kernel) (fun c2 => ?_) (fun c2 => ?_)
  · have f2 := mt (ti_eq (a := x1.toInt) (b := 0) rfl (by decide +kernel)).mpr c2
    refine lv_aload_n hx hb dX0_reasonToPut_14 rfl (lv_at hl 0 rfl) ?_
    refine xgT_TA_world hx hb hts (fun _ h => List.mem_cons_of_mem _ (List.mem_append_left _ (List.mem_append_left _ (List.mem_append_left _ (List.mem_append_right _ h))))) hown hK hP (hts (.fieldLink RX0 9 "TalePlay$Acts" "world" "LTalePlay$World;") (List.mem_cons_of_mem _ (List.mem_append_left _ (List.mem_append_left _ (List.mem_append_left _ (List.mem_append_left _ (List.mem_append_left _ (List.mem_of_getElem? (i := 2) rfl)))))))) dX0_reasonToPut_15 ?_
    refine lv_iload_n hx hb dX0_reasonToPut_18 rfl (lv_at hl 3 rfl) ?_
    refine ro_calli (va_runV (As := [.int w2]) (rest := []) ⟨hx, hb, hml, hown, hts⟩ (x_X10_sortOf_e l D s.heap.size .null a t i q c d w2 hI ) (cwV 1 hts gm_X0_reasonToPut_eTA_X10_sortOf_e_86 rfl rfl rfl (by decide +kernel) ⟨Nat.le_of_ble_eq_true rfl, Nat.le_of_ble_eq_true rfl⟩) (yA_V hN (xZ_k hZ hS hA) (xkT_W hK) (xuT_W (sk := sk) hP) (ci := 10) (q0 := 0) rfl rfl) rfl rfl hl.1 rfl (lv_room (Nat.le_of_ble_eq_true rfl)) dX0_reasonToPut_19 ⟨Nat.le_of_ble_eq_true rfl, Nat.le_of_ble_eq_true rfl⟩) hS hA hP (fun r3 u3 H locs hw3 hP hS => ?_)
    have hw3 : (((r3.toInt = -9 ∧ ¬ (0 ≤ w2.toInt ∧ w2.toInt < (i 111).toInt)) ∨ (0 ≤ r3.toInt ∧ r3.toInt ≤ 5 ∧ 0 ≤ w2.toInt ∧ w2.toInt < (i 111).toInt)) ∧ (SO (c 106) (c 108) (i 111).toInt w2.toInt r3.toInt)) := hw3
    obtain ⟨hw3, hr3_0⟩ := hw3
    have hr3_0 : SO (c 106) (c 108) (i 111).toInt w2.toInt r3.toInt := hr3_0
    have hzo : r3.toInt = (zX (c 106) (c 108) (i 111).toInt) w2.toInt := SO_z hr3_0
    refine lv_iload_n hx hb dX0_reasonToPut_22 rfl (lv_at hl 2 rfl) ?_
    refine lv_if_ne (tgt := 30) hx hb dX0_reasonToPut_23 (by decide +kernel) (fun c4 => ?_) (fun c4 => ?_)
    · have f4 := mt (ti_eq (a := f.toInt) (b := 0) rfl (by decide +kernel)).mpr c4
      refine lv_iconst (v := 4) hx hb dX0_reasonToPut_30 (by decide +kernel) ?_
      refine lv_icmp_eq (tgt := 37) hx hb dX0_reasonToPut_31 (by decide +kernel) (fun c5 => ?_) (fun c5 => ?_)
      · have f5 := (ti_eq (a := r3.toInt) (b := 4) rfl (by decide +kernel)).mp c5
        refine lv_iload_n hx hb dX0_reasonToPut_37 rfl (lv_at hl 3 rfl) ?_
        refine lv_iload_n hx hb dX0_reasonToPut_38 rfl (lv_at hl 1 rfl) ?_
        refine lv_icmp_eq (tgt := 54) hx hb dX0_reasonToPut_39 (by decide +kernel) (fun c6 => ?_) (fun c6 => ?_)
        · have f6 := (ti_eq (a := w2.toInt) (b := w1.toInt) rfl rfl).mp c6
          refine lv_bipush (v := 13) hx hb dX0_reasonToPut_54 (by decide +kernel) ?_
          exact ro_iret hx hb hr hlocks hS dX0_reasonToPut_56 ⟨(show 0 ≤ (13 : Int32).toInt ∧ (13 : Int32).toInt ≤ 14 from by decide +kernel), (show (13 : Int32).toInt = putV ((c 152 w2.toInt.toNat).toInt = 1) (((f.toInt : Int) = 0 ∧ (zX (c 106) (c 108) (i 111).toInt) w2.toInt = 3) ∨ (¬ (f.toInt : Int) = 0 ∧ (zX (c 106) (c 108) (i 111).toInt) w2.toInt = 4)) (w2.toInt = w1.toInt ∨ ChB 30 (hF (c 150)) ((hF (c 150)) w2.toInt) w1.toInt) ((f.toInt : Int) = 0 ∧ ¬ (bT (c 150) 0) w2.toInt) ((c 153 w2.toInt.toNat).toInt = 1) (8 ≤ ((cnt (lsP (c 150) f.toInt w2.toInt) (i 111).toInt.toNat : Nat) : Int)) from by unfold putV; rw [iV_n (by omega), iV_n (by omega), iV_y (by first | exact Or.inl (by omega))]; first | done | decide)⟩
        · have f6 := mt (ti_eq (a := w2.toInt) (b := w1.toInt) rfl rfl).mpr c6
          refine lv_aload_n hx hb dX0_reasonToPut_42 rfl (lv_at hl 0 rfl) ?_
          refine xgT_TA_scene hx hb hts (fun _ h => List.mem_cons_of_mem _ (List.mem_append_left _ (List.mem_append_left _ (List.mem_append_left _ (List.mem_append_right _ h))))) hown hK hP (hts (.fieldLink RX0 33 "TalePlay$Acts" "scene" "LTalePlay$Scene;") (List.mem_cons_of_mem _ (List.mem_append_left _ (List.mem_append_left _ (List.mem_append_left _ (List.mem_append_left _ (List.mem_append_left _ (List.mem_of_getElem? (i := 11) rfl)))))))) dX0_reasonToPut_43 ?_
          refine lv_iload_n hx hb dX0_reasonToPut_46 rfl (lv_at hl 1 rfl) ?_
          refine lv_iload_n hx hb dX0_reasonToPut_47 rfl (lv_at hl 3 rfl) ?_
          refine ro_calli (va_runV (As := [.int w1, .int w2]) (rest := []) ⟨hx, hb, hml, hown, hts⟩ (x_X6_isUp_eTS l D H.size .null a t i q c d w1 w2 hI (show 0 ≤ w2.toInt ∧ w2.toInt ≤ 29 from by omega) (show 0 ≤ w1.toInt from by omega)) (cwV 2 hts gm_X0_reasonToPut_eTA_X6_isUp_eTS_112 rfl rfl rfl (by decide +kernel) ⟨Nat.le_of_ble_eq_true rfl, Nat.le_of_ble_eq_true rfl⟩) (yA_V hN (xZ_k hZ hS hA) (xkT_P1 hK) (xuT_P1 (sk := sk) hP) (ci := 6) (q0 := 0) rfl rfl) rfl rfl hl.1 rfl (lv_room (Nat.le_of_ble_eq_true rfl)) dX0_reasonToPut_48 ⟨Nat.le_of_ble_eq_true rfl, Nat.le_of_ble_eq_true rfl⟩) hS hA hP (fun r7 u7 H locs hw7 hP hS => ?_)
          have hw7 : ((0 ≤ r7.toInt ∧ r7.toInt ≤ 1) ∧ (Sm r7 (ChB 30 (hF (c 150)) ((hF (c 150)) w2.toInt) w1.toInt))) := hw7
          obtain ⟨hw7, hr7_0⟩ := hw7
          have hr7_0 : Sm r7 (ChB 30 (hF (c 150)) ((hF (c 150)) w2.toInt) w1.toInt) := hr7_0
          refine lv_if_eq (tgt := 57) hx hb dX0_reasonToPut_51 (by decide +kernel) (fun c8 => ?_) (fun c8 => ?_)
          · have f8 := (ti_eq (a := r7.toInt) (b := 0) rfl (by decide +kernel)).mp c8
            have s8 := sm_f hr7_0 c8
            refine lv_iload_n hx hb dX0_reasonToPut_57 rfl (lv_at hl 2 rfl) ?_
            refine lv_if_ne (tgt := 75) hx hb dX0_reasonToPut_58 (by decide +kernel) (fun c9 => ?_) (fun c9 => ?_)
            · have f9 := mt (ti_eq (a := f.toInt) (b := 0) rfl (by decide +kernel)).mpr c9
              refine lv_aload_n hx hb dX0_reasonToPut_75 rfl (lv_at hl 0 rfl) ?_
              refine xgT_TA_sight hx hb hts (fun _ h => List.mem_cons_of_mem _ (List.mem_append_left _ (List.mem_append_left _ (List.mem_append_left _ (List.mem_append_right _ h))))) hown hK hP (hts (.fieldLink RX0 34 "TalePlay$Acts" "sight" "LTalePlay$Sight;") (List.mem_cons_of_mem _ (List.mem_append_left _ (List.mem_append_left _ (List.mem_append_left _ (List.mem_append_left _ (List.mem_append_left _ (List.mem_of_getElem? (i := 0) rfl)))))))) dX0_reasonToPut_76 ?_
              refine xgT_TG_reached hx hb hts (fun _ h => List.mem_cons_of_mem _ (List.mem_append_left _ (List.mem_append_left _ (List.mem_append_right _ h)))) hown hK hP (hts (.fieldLink RX0 118 "TalePlay$Sight" "reached" "[Z") (List.mem_cons_of_mem _ (List.mem_append_left _ (List.mem_append_left _ (List.mem_append_left _ (List.mem_append_left _ (List.mem_append_right _ (List.mem_append_left _ (List.mem_of_getElem? (i := 6) rfl))))))))) dX0_reasonToPut_79 ?_
              refine lv_iload_n hx hb dX0_reasonToPut_82 rfl (lv_at hl 3 rfl) ?_
              refine xlT_153 hx hb hK hP (vp_in_iff.mpr (by have h9 : w2.toInt = w2.toInt := rfl; omega)) dX0_reasonToPut_83 (fun x10 ex10 => ?_)
              have rx10 : 0 ≤ x10.toInt ∧ x10.toInt ≤ 1 := by rw [ex10]; exact hI.2 153 _
              have gx10 : (c 153 (w2 : Int32).toNatClampNeg).toInt = x10.toInt := (congrArg Int32.toInt ex10).symm
              have hrc : (c 153 w2.toInt.toNat).toInt = x10.toInt := gx10
              refine lv_if_ne (tgt := 90) hx hb dX0_reasonToPut_84 (by decide +kernel) (fun c11 => ?_) (fun c11 => ?_)
              · have f11 := mt (ti_eq (a := x10.toInt) (b := 0) rfl (by decide +kernel)).mpr c11
                refine lv_aload_n hx hb dX0_reasonToPut_90 rfl (lv_at hl 0 rfl) ?_
                refine xgT_TA_scene hx hb hts (fun _ h => List.mem_cons_of_mem _ (List.mem_append_left _ (List.mem_append_left _ (List.mem_append_left _ (List.mem_append_right _ h))))) hown hK hP (hts (.fieldLink RX0 33 "TalePlay$Acts" "scene" "LTalePlay$Scene;") (List.mem_cons_of_mem _ (List.mem_append_left _ (List.mem_append_left _ (List.mem_append_left _ (List.mem_append_left _ (List.mem_append_left _ (List.mem_of_getElem? (i := 11) rfl)))))))) dX0_reasonToPut_91 ?_
                refine lv_iload_n hx hb dX0_reasonToPut_94 rfl (lv_at hl 2 rfl) ?_
                refine lv_iload_n hx hb dX0_reasonToPut_95 rfl (lv_at hl 3 rfl) ?_
                refine ro_calli (va_runV (As := [.int f, .int w2]) (rest := []) ⟨hx, hb, hml, hown, hts⟩ (x_X6_countOf_eTS l D H.size .null a t i q c d f w2 hI (show 0 ≤ f.toInt ∧ f.toInt ≤ 7 from by omega) (show 0 ≤ w2.toInt ∧ w2.toInt ≤ 31 from by omega)) (cwV 2 hts gm_X0_reasonToPut_eTA_X6_countOf_eTS_134 rfl rfl rfl (by decide +kernel) ⟨Nat.le_of_ble_eq_true rfl, Nat.le_of_ble_eq_true rfl⟩) (yA_V hN (xZ_k hZ hS hA) (xkT_Q1 hK) (xuT_Q1 (sk := sk) hP) (ci := 6) (q0 := 0) rfl rfl) rfl rfl hl.1 rfl (lv_room (Nat.le_of_ble_eq_true rfl)) dX0_reasonToPut_96 ⟨Nat.le_of_ble_eq_true rfl, Nat.le_of_ble_eq_true rfl⟩) hS hA hP (fun r12 u12 H locs hw12 hP hS => ?_)
                have hw12 : ((0 ≤ r12.toInt ∧ r12.toInt ≤ 30) ∧ (r12.toInt = ((cnt (lsP (c 150) f.toInt w2.toInt) (i 111).toInt.toNat : Nat) : Int))) := hw12
                obtain ⟨hw12, hr12_0⟩ := hw12
                have hr12_0 : r12.toInt = ((cnt (lsP (c 150) f.toInt w2.toInt) (i 111).toInt.toNat : Nat) : Int) := hr12_0
                refine lv_bipush (v := 8) hx hb dX0_reasonToPut_99 (by decide +kernel) ?_
                refine lv_icmp_lt (tgt := 109) hx hb dX0_reasonToPut_101 (by decide +kernel) (fun c13 => ?_) (fun c13 => ?_)
                · have f13 := (ti_lt (a := r12.toInt) (b := 8) rfl (by decide +kernel)).mp c13
                  refine lv_iconst (v := 0) hx hb dX0_reasonToPut_109 (by decide +kernel) ?_
                  exact ro_iret hx hb hr hlocks hS dX0_reasonToPut_110 ⟨(show 0 ≤ (0 : Int32).toInt ∧ (0 : Int32).toInt ≤ 14 from by decide +kernel), (show (0 : Int32).toInt = putV ((c 152 w2.toInt.toNat).toInt = 1) (((f.toInt : Int) = 0 ∧ (zX (c 106) (c 108) (i 111).toInt) w2.toInt = 3) ∨ (¬ (f.toInt : Int) = 0 ∧ (zX (c 106) (c 108) (i 111).toInt) w2.toInt = 4)) (w2.toInt = w1.toInt ∨ ChB 30 (hF (c 150)) ((hF (c 150)) w2.toInt) w1.toInt) ((f.toInt : Int) = 0 ∧ ¬ (bT (c 150) 0) w2.toInt) ((c 153 w2.toInt.toNat).toInt = 1) (8 ≤ ((cnt (lsP (c 150) f.toInt w2.toInt) (i 111).toInt.toNat : Nat) : Int)) from by unfold putV; rw [iV_n (by omega), iV_n (by omega), iV_n (fun h9 => h9.elim (fun h8 => by omega) s8), iV_n (fun h9 => by have h8 := h9.1; omega), iV_n (by omega), iV_n (by rw [← hr12_0]; omega)]; first | done | decide)⟩
                · have f13 := mt (ti_lt (a := r12.toInt) (b := 8) rfl (by decide +kernel)).mpr c13
                  refine lv_bipush (v := 14) hx hb dX0_reasonToPut_104 (by decide +kernel) ?_
                  refine lv_goto (tgt := 110) hx hb dX0_reasonToPut_106 (by decide +kernel) ?_
                  exact ro_iret hx hb hr hlocks hS dX0_reasonToPut_110 ⟨(show 0 ≤ (14 : Int32).toInt ∧ (14 : Int32).toInt ≤ 14 from by decide +kernel), (show (14 : Int32).toInt = putV ((c 152 w2.toInt.toNat).toInt = 1) (((f.toInt : Int) = 0 ∧ (zX (c 106) (c 108) (i 111).toInt) w2.toInt = 3) ∨ (¬ (f.toInt : Int) = 0 ∧ (zX (c 106) (c 108) (i 111).toInt) w2.toInt = 4)) (w2.toInt = w1.toInt ∨ ChB 30 (hF (c 150)) ((hF (c 150)) w2.toInt) w1.toInt) ((f.toInt : Int) = 0 ∧ ¬ (bT (c 150) 0) w2.toInt) ((c 153 w2.toInt.toNat).toInt = 1) (8 ≤ ((cnt (lsP (c 150) f.toInt w2.toInt) (i 111).toInt.toNat : Nat) : Int)) from by unfold putV; rw [iV_n (by omega), iV_n (by omega), iV_n (fun h9 => h9.elim (fun h8 => by omega) s8), iV_n (fun h9 => by have h8 := h9.1; omega), iV_n (by omega), iV_y (by rw [← hr12_0]; omega)]; first | done | decide)⟩
              · have f11 := (ti_eq (a := x10.toInt) (b := 0) rfl (by decide +kernel)).mp c11
                refine lv_bipush (v := 8) hx hb dX0_reasonToPut_87 (by decide +kernel) ?_
                exact ro_iret hx hb hr hlocks hS dX0_reasonToPut_89 ⟨(show 0 ≤ (8 : Int32).toInt ∧ (8 : Int32).toInt ≤ 14 from by decide +kernel), (show (8 : Int32).toInt = putV ((c 152 w2.toInt.toNat).toInt = 1) (((f.toInt : Int) = 0 ∧ (zX (c 106) (c 108) (i 111).toInt) w2.toInt = 3) ∨ (¬ (f.toInt : Int) = 0 ∧ (zX (c 106) (c 108) (i 111).toInt) w2.toInt = 4)) (w2.toInt = w1.toInt ∨ ChB 30 (hF (c 150)) ((hF (c 150)) w2.toInt) w1.toInt) ((f.toInt : Int) = 0 ∧ ¬ (bT (c 150) 0) w2.toInt) ((c 153 w2.toInt.toNat).toInt = 1) (8 ≤ ((cnt (lsP (c 150) f.toInt w2.toInt) (i 111).toInt.toNat : Nat) : Int)) from by unfold putV; rw [iV_n (by omega), iV_n (by omega), iV_n (fun h9 => h9.elim (fun h8 => by omega) s8), iV_n (fun h9 => by have h8 := h9.1; omega), iV_y (by omega)]; first | done | decide)⟩
            · have f9 := (ti_eq (a := f.toInt) (b := 0) rfl (by decide +kernel)).mp c9
              refine lv_aload_n hx hb dX0_reasonToPut_61 rfl (lv_at hl 0 rfl) ?_
              refine xgT_TA_scene hx hb hts (fun _ h => List.mem_cons_of_mem _ (List.mem_append_left _ (List.mem_append_left _ (List.mem_append_left _ (List.mem_append_right _ h))))) hown hK hP (hts (.fieldLink RX0 33 "TalePlay$Acts" "scene" "LTalePlay$Scene;") (List.mem_cons_of_mem _ (List.mem_append_left _ (List.mem_append_left _ (List.mem_append_left _ (List.mem_append_left _ (List.mem_append_left _ (List.mem_of_getElem? (i := 11) rfl)))))))) dX0_reasonToPut_62 ?_
              refine lv_iload_n hx hb dX0_reasonToPut_65 rfl (lv_at hl 3 rfl) ?_
              refine lv_iconst (v := 0) hx hb dX0_reasonToPut_66 (by decide +kernel) ?_
              refine ro_calli (va_runV (As := [.int w2, .int 0]) (rest := []) ⟨hx, hb, hml, hown, hts⟩ (x_X6_has_eTS l D H.size .null a t i q c d w2 0 hI (show 0 ≤ w2.toInt ∧ w2.toInt ≤ 29 from by have h91 : (0 : Int32).toInt = 0 := (by decide +kernel); omega) (show 0 ≤ 0 ∧ 0 ≤ 5 from by decide +kernel)) (cwV 2 hts gm_X0_reasonToPut_eTA_X6_has_eTS_104 rfl rfl rfl (by decide +kernel) ⟨Nat.le_of_ble_eq_true rfl, Nat.le_of_ble_eq_true rfl⟩) (yA_V hN (xZ_k hZ hS hA) (xkT_P1 hK) (xuT_P1 (sk := sk) hP) (ci := 6) (q0 := 0) rfl rfl) rfl rfl hl.1 rfl (lv_room (Nat.le_of_ble_eq_true rfl)) dX0_reasonToPut_67 ⟨Nat.le_of_ble_eq_true rfl, Nat.le_of_ble_eq_true rfl⟩) hS hA hP (fun r14 u14 H locs hw14 hP hS => ?_)
              have hw14 : ((0 ≤ r14.toInt ∧ r14.toInt ≤ 1) ∧ (Sm r14 (hbt (c 150 w2.toInt.toNat) 0))) := hw14
              obtain ⟨hw14, hr14_0⟩ := hw14
              have hr14_0 : Sm r14 (hbt (c 150 w2.toInt.toNat) 0) := hr14_0
              refine lv_if_ne (tgt := 75) hx hb dX0_reasonToPut_70 (by decide +kernel) (fun c15 => ?_) (fun c15 => ?_)
              · have f15 := mt (ti_eq (a := r14.toInt) (b := 0) rfl (by decide +kernel)).mpr c15
                have s15 := sm_t hr14_0 c15
                refine lv_aload_n hx hb dX0_reasonToPut_75 rfl (lv_at hl 0 rfl) ?_
                refine xgT_TA_sight hx hb hts (fun _ h => List.mem_cons_of_mem _ (List.mem_append_left _ (List.mem_append_left _ (List.mem_append_left _ (List.mem_append_right _ h))))) hown hK hP (hts (.fieldLink RX0 34 "TalePlay$Acts" "sight" "LTalePlay$Sight;") (List.mem_cons_of_mem _ (List.mem_append_left _ (List.mem_append_left _ (List.mem_append_left _ (List.mem_append_left _ (List.mem_append_left _ (List.mem_of_getElem? (i := 0) rfl)))))))) dX0_reasonToPut_76 ?_
                refine xgT_TG_reached hx hb hts (fun _ h => List.mem_cons_of_mem _ (List.mem_append_left _ (List.mem_append_left _ (List.mem_append_right _ h)))) hown hK hP (hts (.fieldLink RX0 118 "TalePlay$Sight" "reached" "[Z") (List.mem_cons_of_mem _ (List.mem_append_left _ (List.mem_append_left _ (List.mem_append_left _ (List.mem_append_left _ (List.mem_append_right _ (List.mem_append_left _ (List.mem_of_getElem? (i := 6) rfl))))))))) dX0_reasonToPut_79 ?_
                refine lv_iload_n hx hb dX0_reasonToPut_82 rfl (lv_at hl 3 rfl) ?_
                refine xlT_153 hx hb hK hP (vp_in_iff.mpr (by have h9 : w2.toInt = w2.toInt := rfl; omega)) dX0_reasonToPut_83 (fun x16 ex16 => ?_)
                have rx16 : 0 ≤ x16.toInt ∧ x16.toInt ≤ 1 := by rw [ex16]; exact hI.2 153 _
                have gx16 : (c 153 (w2 : Int32).toNatClampNeg).toInt = x16.toInt := (congrArg Int32.toInt ex16).symm
                have hrc : (c 153 w2.toInt.toNat).toInt = x16.toInt := gx16
                refine lv_if_ne (tgt := 90) hx hb dX0_reasonToPut_84 (by decide +kernel) (fun c17 => ?_) (fun c17 => ?_)
                · have f17 := mt (ti_eq (a := x16.toInt) (b := 0) rfl (by decide +kernel)).mpr c17
                  refine lv_aload_n hx hb dX0_reasonToPut_90 rfl (lv_at hl 0 rfl) ?_
                  refine xgT_TA_scene hx hb hts (fun _ h => List.mem_cons_of_mem _ (List.mem_append_left _ (List.mem_append_left _ (List.mem_append_left _ (List.mem_append_right _ h))))) hown hK hP (hts (.fieldLink RX0 33 "TalePlay$Acts" "scene" "LTalePlay$Scene;") (List.mem_cons_of_mem _ (List.mem_append_left _ (List.mem_append_left _ (List.mem_append_left _ (List.mem_append_left _ (List.mem_append_left _ (List.mem_of_getElem? (i := 11) rfl)))))))) dX0_reasonToPut_91 ?_
                  refine lv_iload_n hx hb dX0_reasonToPut_94 rfl (lv_at hl 2 rfl) ?_
                  refine lv_iload_n hx hb dX0_reasonToPut_95 rfl (lv_at hl 3 rfl) ?_
                  refine ro_calli (va_runV (As := [.int f, .int w2]) (rest := []) ⟨hx, hb, hml, hown, hts⟩ (x_X6_countOf_eTS l D H.size .null a t i q c d f w2 hI (show 0 ≤ f.toInt ∧ f.toInt ≤ 7 from by omega) (show 0 ≤ w2.toInt ∧ w2.toInt ≤ 31 from by omega)) (cwV 2 hts gm_X0_reasonToPut_eTA_X6_countOf_eTS_134 rfl rfl rfl (by decide +kernel) ⟨Nat.le_of_ble_eq_true rfl, Nat.le_of_ble_eq_true rfl⟩) (yA_V hN (xZ_k hZ hS hA) (xkT_Q1 hK) (xuT_Q1 (sk := sk) hP) (ci := 6) (q0 := 0) rfl rfl) rfl rfl hl.1 rfl (lv_room (Nat.le_of_ble_eq_true rfl)) dX0_reasonToPut_96 ⟨Nat.le_of_ble_eq_true rfl, Nat.le_of_ble_eq_true rfl⟩) hS hA hP (fun r18 u18 H locs hw18 hP hS => ?_)
                  have hw18 : ((0 ≤ r18.toInt ∧ r18.toInt ≤ 30) ∧ (r18.toInt = ((cnt (lsP (c 150) f.toInt w2.toInt) (i 111).toInt.toNat : Nat) : Int))) := hw18
                  obtain ⟨hw18, hr18_0⟩ := hw18
                  have hr18_0 : r18.toInt = ((cnt (lsP (c 150) f.toInt w2.toInt) (i 111).toInt.toNat : Nat) : Int) := hr18_0
                  refine lv_bipush (v := 8) hx hb dX0_reasonToPut_99 (by decide +kernel) ?_
                  refine lv_icmp_lt (tgt := 109) hx hb dX0_reasonToPut_101 (by decide +kernel) (fun c19 => ?_) (fun c19 => ?_)
                  · have f19 := (ti_lt (a := r18.toInt) (b := 8) rfl (by decide +kernel)).mp c19
                    refine lv_iconst (v := 0) hx hb dX0_reasonToPut_109 (by decide +kernel) ?_
                    exact ro_iret hx hb hr hlocks hS dX0_reasonToPut_110 ⟨(show 0 ≤ (0 : Int32).toInt ∧ (0 : Int32).toInt ≤ 14 from by decide +kernel), (show (0 : Int32).toInt = putV ((c 152 w2.toInt.toNat).toInt = 1) (((f.toInt : Int) = 0 ∧ (zX (c 106) (c 108) (i 111).toInt) w2.toInt = 3) ∨ (¬ (f.toInt : Int) = 0 ∧ (zX (c 106) (c 108) (i 111).toInt) w2.toInt = 4)) (w2.toInt = w1.toInt ∨ ChB 30 (hF (c 150)) ((hF (c 150)) w2.toInt) w1.toInt) ((f.toInt : Int) = 0 ∧ ¬ (bT (c 150) 0) w2.toInt) ((c 153 w2.toInt.toNat).toInt = 1) (8 ≤ ((cnt (lsP (c 150) f.toInt w2.toInt) (i 111).toInt.toNat : Nat) : Int)) from by unfold putV; rw [iV_n (by omega), iV_n (by omega), iV_n (fun h9 => h9.elim (fun h8 => by omega) s8), iV_n (fun h9 => h9.2 s15), iV_n (by omega), iV_n (by rw [← hr18_0]; omega)]; first | done | decide)⟩
                  · have f19 := mt (ti_lt (a := r18.toInt) (b := 8) rfl (by decide +kernel)).mpr c19
                    refine lv_bipush (v := 14) hx hb dX0_reasonToPut_104 (by decide +kernel) ?_
                    refine lv_goto (tgt := 110) hx hb dX0_reasonToPut_106 (by decide +kernel) ?_
                    exact ro_iret hx hb hr hlocks hS dX0_reasonToPut_110 ⟨(show 0 ≤ (14 : Int32).toInt ∧ (14 : Int32).toInt ≤ 14 from by decide +kernel), (show (14 : Int32).toInt = putV ((c 152 w2.toInt.toNat).toInt = 1) (((f.toInt : Int) = 0 ∧ (zX (c 106) (c 108) (i 111).toInt) w2.toInt = 3) ∨ (¬ (f.toInt : Int) = 0 ∧ (zX (c 106) (c 108) (i 111).toInt) w2.toInt = 4)) (w2.toInt = w1.toInt ∨ ChB 30 (hF (c 150)) ((hF (c 150)) w2.toInt) w1.toInt) ((f.toInt : Int) = 0 ∧ ¬ (bT (c 150) 0) w2.toInt) ((c 153 w2.toInt.toNat).toInt = 1) (8 ≤ ((cnt (lsP (c 150) f.toInt w2.toInt) (i 111).toInt.toNat : Nat) : Int)) from by unfold putV; rw [iV_n (by omega), iV_n (by omega), iV_n (fun h9 => h9.elim (fun h8 => by omega) s8), iV_n (fun h9 => h9.2 s15), iV_n (by omega), iV_y (by rw [← hr18_0]; omega)]; first | done | decide)⟩
                · have f17 := (ti_eq (a := x16.toInt) (b := 0) rfl (by decide +kernel)).mp c17
                  refine lv_bipush (v := 8) hx hb dX0_reasonToPut_87 (by decide +kernel) ?_
                  exact ro_iret hx hb hr hlocks hS dX0_reasonToPut_89 ⟨(show 0 ≤ (8 : Int32).toInt ∧ (8 : Int32).toInt ≤ 14 from by decide +kernel), (show (8 : Int32).toInt = putV ((c 152 w2.toInt.toNat).toInt = 1) (((f.toInt : Int) = 0 ∧ (zX (c 106) (c 108) (i 111).toInt) w2.toInt = 3) ∨ (¬ (f.toInt : Int) = 0 ∧ (zX (c 106) (c 108) (i 111).toInt) w2.toInt = 4)) (w2.toInt = w1.toInt ∨ ChB 30 (hF (c 150)) ((hF (c 150)) w2.toInt) w1.toInt) ((f.toInt : Int) = 0 ∧ ¬ (bT (c 150) 0) w2.toInt) ((c 153 w2.toInt.toNat).toInt = 1) (8 ≤ ((cnt (lsP (c 150) f.toInt w2.toInt) (i 111).toInt.toNat : Nat) : Int)) from by unfold putV; rw [iV_n (by omega), iV_n (by omega), iV_n (fun h9 => h9.elim (fun h8 => by omega) s8), iV_n (fun h9 => h9.2 s15), iV_y (by omega)]; first | done | decide)⟩
              · have f15 := (ti_eq (a := r14.toInt) (b := 0) rfl (by decide +kernel)).mp c15
                have s15 := sm_f hr14_0 c15
                refine lv_iconst (v := 3) hx hb dX0_reasonToPut_73 (by decide +kernel) ?_
                exact ro_iret hx hb hr hlocks hS dX0_reasonToPut_74 ⟨(show 0 ≤ (3 : Int32).toInt ∧ (3 : Int32).toInt ≤ 14 from by decide +kernel), (show (3 : Int32).toInt = putV ((c 152 w2.toInt.toNat).toInt = 1) (((f.toInt : Int) = 0 ∧ (zX (c 106) (c 108) (i 111).toInt) w2.toInt = 3) ∨ (¬ (f.toInt : Int) = 0 ∧ (zX (c 106) (c 108) (i 111).toInt) w2.toInt = 4)) (w2.toInt = w1.toInt ∨ ChB 30 (hF (c 150)) ((hF (c 150)) w2.toInt) w1.toInt) ((f.toInt : Int) = 0 ∧ ¬ (bT (c 150) 0) w2.toInt) ((c 153 w2.toInt.toNat).toInt = 1) (8 ≤ ((cnt (lsP (c 150) f.toInt w2.toInt) (i 111).toInt.toNat : Nat) : Int)) from by unfold putV; rw [iV_n (by omega), iV_n (by omega), iV_n (fun h9 => h9.elim (fun h8 => by omega) s8), iV_y ⟨by omega, s15⟩]; first | done | decide)⟩
          · have f8 := mt (ti_eq (a := r7.toInt) (b := 0) rfl (by decide +kernel)).mpr c8
            have s8 := sm_t hr7_0 c8
            refine lv_bipush (v := 13) hx hb dX0_reasonToPut_54 (by decide +kernel) ?_
            exact ro_iret hx hb hr hlocks hS dX0_reasonToPut_56 ⟨(show 0 ≤ (13 : Int32).toInt ∧ (13 : Int32).toInt ≤ 14 from by decide +kernel), (show (13 : Int32).toInt = putV ((c 152 w2.toInt.toNat).toInt = 1) (((f.toInt : Int) = 0 ∧ (zX (c 106) (c 108) (i 111).toInt) w2.toInt = 3) ∨ (¬ (f.toInt : Int) = 0 ∧ (zX (c 106) (c 108) (i 111).toInt) w2.toInt = 4)) (w2.toInt = w1.toInt ∨ ChB 30 (hF (c 150)) ((hF (c 150)) w2.toInt) w1.toInt) ((f.toInt : Int) = 0 ∧ ¬ (bT (c 150) 0) w2.toInt) ((c 153 w2.toInt.toNat).toInt = 1) (8 ≤ ((cnt (lsP (c 150) f.toInt w2.toInt) (i 111).toInt.toNat : Nat) : Int)) from by unfold putV; rw [iV_n (by omega), iV_n (by omega), iV_y (by first | exact Or.inl (by omega) | exact Or.inr s8)]; first | done | decide)⟩
      · have f5 := mt (ti_eq (a := r3.toInt) (b := 4) rfl (by decide +kernel)).mpr c5
        refine lv_bipush (v := 12) hx hb dX0_reasonToPut_34 (by decide +kernel) ?_
        exact ro_iret hx hb hr hlocks hS dX0_reasonToPut_36 ⟨(show 0 ≤ (12 : Int32).toInt ∧ (12 : Int32).toInt ≤ 14 from by decide +kernel), (show (12 : Int32).toInt = putV ((c 152 w2.toInt.toNat).toInt = 1) (((f.toInt : Int) = 0 ∧ (zX (c 106) (c 108) (i 111).toInt) w2.toInt = 3) ∨ (¬ (f.toInt : Int) = 0 ∧ (zX (c 106) (c 108) (i 111).toInt) w2.toInt = 4)) (w2.toInt = w1.toInt ∨ ChB 30 (hF (c 150)) ((hF (c 150)) w2.toInt) w1.toInt) ((f.toInt : Int) = 0 ∧ ¬ (bT (c 150) 0) w2.toInt) ((c 153 w2.toInt.toNat).toInt = 1) (8 ≤ ((cnt (lsP (c 150) f.toInt w2.toInt) (i 111).toInt.toNat : Nat) : Int)) from by unfold putV; rw [iV_n (by omega), iV_y (by omega)]; first | done | decide)⟩
    · have f4 := (ti_eq (a := f.toInt) (b := 0) rfl (by decide +kernel)).mp c4
      refine lv_iconst (v := 3) hx hb dX0_reasonToPut_26 (by decide +kernel) ?_
      refine lv_goto (tgt := 31) hx hb dX0_reasonToPut_27 (by decide +kernel) ?_
      refine lv_icmp_eq (tgt := 37) hx hb dX0_reasonToPut_31 (by decide +kernel) (fun c20 => ?_) (fun c20 => ?_)
      · have f20 := (ti_eq (a := r3.toInt) (b := 3) rfl (by decide +kernel)).mp c20
        refine lv_iload_n hx hb dX0_reasonToPut_37 rfl (lv_at hl 3 rfl) ?_
        refine lv_iload_n hx hb dX0_reasonToPut_38 rfl (lv_at hl 1 rfl) ?_
        refine lv_icmp_eq (tgt := 54) hx hb dX0_reasonToPut_39 (by decide +kernel) (fun c21 => ?_) (fun c21 => ?_)
        · have f21 := (ti_eq (a := w2.toInt) (b := w1.toInt) rfl rfl).mp c21
          refine lv_bipush (v := 13) hx hb dX0_reasonToPut_54 (by decide +kernel) ?_
          exact ro_iret hx hb hr hlocks hS dX0_reasonToPut_56 ⟨(show 0 ≤ (13 : Int32).toInt ∧ (13 : Int32).toInt ≤ 14 from by decide +kernel), (show (13 : Int32).toInt = putV ((c 152 w2.toInt.toNat).toInt = 1) (((f.toInt : Int) = 0 ∧ (zX (c 106) (c 108) (i 111).toInt) w2.toInt = 3) ∨ (¬ (f.toInt : Int) = 0 ∧ (zX (c 106) (c 108) (i 111).toInt) w2.toInt = 4)) (w2.toInt = w1.toInt ∨ ChB 30 (hF (c 150)) ((hF (c 150)) w2.toInt) w1.toInt) ((f.toInt : Int) = 0 ∧ ¬ (bT (c 150) 0) w2.toInt) ((c 153 w2.toInt.toNat).toInt = 1) (8 ≤ ((cnt (lsP (c 150) f.toInt w2.toInt) (i 111).toInt.toNat : Nat) : Int)) from by unfold putV; rw [iV_n (by omega), iV_n (by omega), iV_y (by first | exact Or.inl (by omega))]; first | done | decide)⟩
        · have f21 := mt (ti_eq (a := w2.toInt) (b := w1.toInt) rfl rfl).mpr c21
          refine lv_aload_n hx hb dX0_reasonToPut_42 rfl (lv_at hl 0 rfl) ?_
          refine xgT_TA_scene hx hb hts (fun _ h => List.mem_cons_of_mem _ (List.mem_append_left _ (List.mem_append_left _ (List.mem_append_left _ (List.mem_append_right _ h))))) hown hK hP (hts (.fieldLink RX0 33 "TalePlay$Acts" "scene" "LTalePlay$Scene;") (List.mem_cons_of_mem _ (List.mem_append_left _ (List.mem_append_left _ (List.mem_append_left _ (List.mem_append_left _ (List.mem_append_left _ (List.mem_of_getElem? (i := 11) rfl)))))))) dX0_reasonToPut_43 ?_
          refine lv_iload_n hx hb dX0_reasonToPut_46 rfl (lv_at hl 1 rfl) ?_
          refine lv_iload_n hx hb dX0_reasonToPut_47 rfl (lv_at hl 3 rfl) ?_
          refine ro_calli (va_runV (As := [.int w1, .int w2]) (rest := []) ⟨hx, hb, hml, hown, hts⟩ (x_X6_isUp_eTS l D H.size .null a t i q c d w1 w2 hI (show 0 ≤ w2.toInt ∧ w2.toInt ≤ 29 from by omega) (show 0 ≤ w1.toInt from by omega)) (cwV 2 hts gm_X0_reasonToPut_eTA_X6_isUp_eTS_112 rfl rfl rfl (by decide +kernel) ⟨Nat.le_of_ble_eq_true rfl, Nat.le_of_ble_eq_true rfl⟩) (yA_V hN (xZ_k hZ hS hA) (xkT_P1 hK) (xuT_P1 (sk := sk) hP) (ci := 6) (q0 := 0) rfl rfl) rfl rfl hl.1 rfl (lv_room (Nat.le_of_ble_eq_true rfl)) dX0_reasonToPut_48 ⟨Nat.le_of_ble_eq_true rfl, Nat.le_of_ble_eq_true rfl⟩) hS hA hP (fun r22 u22 H locs hw22 hP hS => ?_)
          have hw22 : ((0 ≤ r22.toInt ∧ r22.toInt ≤ 1) ∧ (Sm r22 (ChB 30 (hF (c 150)) ((hF (c 150)) w2.toInt) w1.toInt))) := hw22
          obtain ⟨hw22, hr22_0⟩ := hw22
          have hr22_0 : Sm r22 (ChB 30 (hF (c 150)) ((hF (c 150)) w2.toInt) w1.toInt) := hr22_0
          refine lv_if_eq (tgt := 57) hx hb dX0_reasonToPut_51 (by decide +kernel) (fun c23 => ?_) (fun c23 => ?_)
          · have f23 := (ti_eq (a := r22.toInt) (b := 0) rfl (by decide +kernel)).mp c23
            have s23 := sm_f hr22_0 c23
            refine lv_iload_n hx hb dX0_reasonToPut_57 rfl (lv_at hl 2 rfl) ?_
            refine lv_if_ne (tgt := 75) hx hb dX0_reasonToPut_58 (by decide +kernel) (fun c24 => ?_) (fun c24 => ?_)
            · have f24 := mt (ti_eq (a := f.toInt) (b := 0) rfl (by decide +kernel)).mpr c24
              refine lv_aload_n hx hb dX0_reasonToPut_75 rfl (lv_at hl 0 rfl) ?_
              refine xgT_TA_sight hx hb hts (fun _ h => List.mem_cons_of_mem _ (List.mem_append_left _ (List.mem_append_left _ (List.mem_append_left _ (List.mem_append_right _ h))))) hown hK hP (hts (.fieldLink RX0 34 "TalePlay$Acts" "sight" "LTalePlay$Sight;") (List.mem_cons_of_mem _ (List.mem_append_left _ (List.mem_append_left _ (List.mem_append_left _ (List.mem_append_left _ (List.mem_append_left _ (List.mem_of_getElem? (i := 0) rfl)))))))) dX0_reasonToPut_76 ?_
              refine xgT_TG_reached hx hb hts (fun _ h => List.mem_cons_of_mem _ (List.mem_append_left _ (List.mem_append_left _ (List.mem_append_right _ h)))) hown hK hP (hts (.fieldLink RX0 118 "TalePlay$Sight" "reached" "[Z") (List.mem_cons_of_mem _ (List.mem_append_left _ (List.mem_append_left _ (List.mem_append_left _ (List.mem_append_left _ (List.mem_append_right _ (List.mem_append_left _ (List.mem_of_getElem? (i := 6) rfl))))))))) dX0_reasonToPut_79 ?_
              refine lv_iload_n hx hb dX0_reasonToPut_82 rfl (lv_at hl 3 rfl) ?_
              refine xlT_153 hx hb hK hP (vp_in_iff.mpr (by have h9 : w2.toInt = w2.toInt := rfl; omega)) dX0_reasonToPut_83 (fun x25 ex25 => ?_)
              have rx25 : 0 ≤ x25.toInt ∧ x25.toInt ≤ 1 := by rw [ex25]; exact hI.2 153 _
              have gx25 : (c 153 (w2 : Int32).toNatClampNeg).toInt = x25.toInt := (congrArg Int32.toInt ex25).symm
              have hrc : (c 153 w2.toInt.toNat).toInt = x25.toInt := gx25
              refine lv_if_ne (tgt := 90) hx hb dX0_reasonToPut_84 (by decide +kernel) (fun c26 => ?_) (fun c26 => ?_)
              · have f26 := mt (ti_eq (a := x25.toInt) (b := 0) rfl (by decide +kernel)).mpr c26
                refine lv_aload_n hx hb dX0_reasonToPut_90 rfl (lv_at hl 0 rfl) ?_
                refine xgT_TA_scene hx hb hts (fun _ h => List.mem_cons_of_mem _ (List.mem_append_left _ (List.mem_append_left _ (List.mem_append_left _ (List.mem_append_right _ h))))) hown hK hP (hts (.fieldLink RX0 33 "TalePlay$Acts" "scene" "LTalePlay$Scene;") (List.mem_cons_of_mem _ (List.mem_append_left _ (List.mem_append_left _ (List.mem_append_left _ (List.mem_append_left _ (List.mem_append_left _ (List.mem_of_getElem? (i := 11) rfl)))))))) dX0_reasonToPut_91 ?_
                refine lv_iload_n hx hb dX0_reasonToPut_94 rfl (lv_at hl 2 rfl) ?_
                refine lv_iload_n hx hb dX0_reasonToPut_95 rfl (lv_at hl 3 rfl) ?_
                refine ro_calli (va_runV (As := [.int f, .int w2]) (rest := []) ⟨hx, hb, hml, hown, hts⟩ (x_X6_countOf_eTS l D H.size .null a t i q c d f w2 hI (show 0 ≤ f.toInt ∧ f.toInt ≤ 7 from by omega) (show 0 ≤ w2.toInt ∧ w2.toInt ≤ 31 from by omega)) (cwV 2 hts gm_X0_reasonToPut_eTA_X6_countOf_eTS_134 rfl rfl rfl (by decide +kernel) ⟨Nat.le_of_ble_eq_true rfl, Nat.le_of_ble_eq_true rfl⟩) (yA_V hN (xZ_k hZ hS hA) (xkT_Q1 hK) (xuT_Q1 (sk := sk) hP) (ci := 6) (q0 := 0) rfl rfl) rfl rfl hl.1 rfl (lv_room (Nat.le_of_ble_eq_true rfl)) dX0_reasonToPut_96 ⟨Nat.le_of_ble_eq_true rfl, Nat.le_of_ble_eq_true rfl⟩) hS hA hP (fun r27 u27 H locs hw27 hP hS => ?_)
                have hw27 : ((0 ≤ r27.toInt ∧ r27.toInt ≤ 30) ∧ (r27.toInt = ((cnt (lsP (c 150) f.toInt w2.toInt) (i 111).toInt.toNat : Nat) : Int))) := hw27
                obtain ⟨hw27, hr27_0⟩ := hw27
                have hr27_0 : r27.toInt = ((cnt (lsP (c 150) f.toInt w2.toInt) (i 111).toInt.toNat : Nat) : Int) := hr27_0
                refine lv_bipush (v := 8) hx hb dX0_reasonToPut_99 (by decide +kernel) ?_
                refine lv_icmp_lt (tgt := 109) hx hb dX0_reasonToPut_101 (by decide +kernel) (fun c28 => ?_) (fun c28 => ?_)
                · have f28 := (ti_lt (a := r27.toInt) (b := 8) rfl (by decide +kernel)).mp c28
                  refine lv_iconst (v := 0) hx hb dX0_reasonToPut_109 (by decide +kernel) ?_
                  exact ro_iret hx hb hr hlocks hS dX0_reasonToPut_110 ⟨(show 0 ≤ (0 : Int32).toInt ∧ (0 : Int32).toInt ≤ 14 from by decide +kernel), (show (0 : Int32).toInt = putV ((c 152 w2.toInt.toNat).toInt = 1) (((f.toInt : Int) = 0 ∧ (zX (c 106) (c 108) (i 111).toInt) w2.toInt = 3) ∨ (¬ (f.toInt : Int) = 0 ∧ (zX (c 106) (c 108) (i 111).toInt) w2.toInt = 4)) (w2.toInt = w1.toInt ∨ ChB 30 (hF (c 150)) ((hF (c 150)) w2.toInt) w1.toInt) ((f.toInt : Int) = 0 ∧ ¬ (bT (c 150) 0) w2.toInt) ((c 153 w2.toInt.toNat).toInt = 1) (8 ≤ ((cnt (lsP (c 150) f.toInt w2.toInt) (i 111).toInt.toNat : Nat) : Int)) from by unfold putV; rw [iV_n (by omega), iV_n (by omega), iV_n (fun h9 => h9.elim (fun h8 => by omega) s23), iV_n (fun h9 => by have h8 := h9.1; omega), iV_n (by omega), iV_n (by rw [← hr27_0]; omega)]; first | done | decide)⟩
                · have f28 := mt (ti_lt (a := r27.toInt) (b := 8) rfl (by decide +kernel)).mpr c28
                  refine lv_bipush (v := 14) hx hb dX0_reasonToPut_104 (by decide +kernel) ?_
                  refine lv_goto (tgt := 110) hx hb dX0_reasonToPut_106 (by decide +kernel) ?_
                  exact ro_iret hx hb hr hlocks hS dX0_reasonToPut_110 ⟨(show 0 ≤ (14 : Int32).toInt ∧ (14 : Int32).toInt ≤ 14 from by decide +kernel), (show (14 : Int32).toInt = putV ((c 152 w2.toInt.toNat).toInt = 1) (((f.toInt : Int) = 0 ∧ (zX (c 106) (c 108) (i 111).toInt) w2.toInt = 3) ∨ (¬ (f.toInt : Int) = 0 ∧ (zX (c 106) (c 108) (i 111).toInt) w2.toInt = 4)) (w2.toInt = w1.toInt ∨ ChB 30 (hF (c 150)) ((hF (c 150)) w2.toInt) w1.toInt) ((f.toInt : Int) = 0 ∧ ¬ (bT (c 150) 0) w2.toInt) ((c 153 w2.toInt.toNat).toInt = 1) (8 ≤ ((cnt (lsP (c 150) f.toInt w2.toInt) (i 111).toInt.toNat : Nat) : Int)) from by unfold putV; rw [iV_n (by omega), iV_n (by omega), iV_n (fun h9 => h9.elim (fun h8 => by omega) s23), iV_n (fun h9 => by have h8 := h9.1; omega), iV_n (by omega), iV_y (by rw [← hr27_0]; omega)]; first | done | decide)⟩
              · have f26 := (ti_eq (a := x25.toInt) (b := 0) rfl (by decide +kernel)).mp c26
                refine lv_bipush (v := 8) hx hb dX0_reasonToPut_87 (by decide +kernel) ?_
                exact ro_iret hx hb hr hlocks hS dX0_reasonToPut_89 ⟨(show 0 ≤ (8 : Int32).toInt ∧ (8 : Int32).toInt ≤ 14 from by decide +kernel), (show (8 : Int32).toInt = putV ((c 152 w2.toInt.toNat).toInt = 1) (((f.toInt : Int) = 0 ∧ (zX (c 106) (c 108) (i 111).toInt) w2.toInt = 3) ∨ (¬ (f.toInt : Int) = 0 ∧ (zX (c 106) (c 108) (i 111).toInt) w2.toInt = 4)) (w2.toInt = w1.toInt ∨ ChB 30 (hF (c 150)) ((hF (c 150)) w2.toInt) w1.toInt) ((f.toInt : Int) = 0 ∧ ¬ (bT (c 150) 0) w2.toInt) ((c 153 w2.toInt.toNat).toInt = 1) (8 ≤ ((cnt (lsP (c 150) f.toInt w2.toInt) (i 111).toInt.toNat : Nat) : Int)) from by unfold putV; rw [iV_n (by omega), iV_n (by omega), iV_n (fun h9 => h9.elim (fun h8 => by omega) s23), iV_n (fun h9 => by have h8 := h9.1; omega), iV_y (by omega)]; first | done | decide)⟩
            · have f24 := (ti_eq (a := f.toInt) (b := 0) rfl (by decide +kernel)).mp c24
              refine lv_aload_n hx hb dX0_reasonToPut_61 rfl (lv_at hl 0 rfl) ?_
              refine xgT_TA_scene hx hb hts (fun _ h => List.mem_cons_of_mem _ (List.mem_append_left _ (List.mem_append_left _ (List.mem_append_left _ (List.mem_append_right _ h))))) hown hK hP (hts (.fieldLink RX0 33 "TalePlay$Acts" "scene" "LTalePlay$Scene;") (List.mem_cons_of_mem _ (List.mem_append_left _ (List.mem_append_left _ (List.mem_append_left _ (List.mem_append_left _ (List.mem_append_left _ (List.mem_of_getElem? (i := 11) rfl)))))))) dX0_reasonToPut_62 ?_
              refine lv_iload_n hx hb dX0_reasonToPut_65 rfl (lv_at hl 3 rfl) ?_
              refine lv_iconst (v := 0) hx hb dX0_reasonToPut_66 (by decide +kernel) ?_
              refine ro_calli (va_runV (As := [.int w2, .int 0]) (rest := []) ⟨hx, hb, hml, hown, hts⟩ (x_X6_has_eTS l D H.size .null a t i q c d w2 0 hI (show 0 ≤ w2.toInt ∧ w2.toInt ≤ 29 from by have h91 : (0 : Int32).toInt = 0 := (by decide +kernel); omega) (show 0 ≤ 0 ∧ 0 ≤ 5 from by decide +kernel)) (cwV 2 hts gm_X0_reasonToPut_eTA_X6_has_eTS_104 rfl rfl rfl (by decide +kernel) ⟨Nat.le_of_ble_eq_true rfl, Nat.le_of_ble_eq_true rfl⟩) (yA_V hN (xZ_k hZ hS hA) (xkT_P1 hK) (xuT_P1 (sk := sk) hP) (ci := 6) (q0 := 0) rfl rfl) rfl rfl hl.1 rfl (lv_room (Nat.le_of_ble_eq_true rfl)) dX0_reasonToPut_67 ⟨Nat.le_of_ble_eq_true rfl, Nat.le_of_ble_eq_true rfl⟩) hS hA hP (fun r29 u29 H locs hw29 hP hS => ?_)
              have hw29 : ((0 ≤ r29.toInt ∧ r29.toInt ≤ 1) ∧ (Sm r29 (hbt (c 150 w2.toInt.toNat) 0))) := hw29
              obtain ⟨hw29, hr29_0⟩ := hw29
              have hr29_0 : Sm r29 (hbt (c 150 w2.toInt.toNat) 0) := hr29_0
              refine lv_if_ne (tgt := 75) hx hb dX0_reasonToPut_70 (by decide +kernel) (fun c30 => ?_) (fun c30 => ?_)
              · have f30 := mt (ti_eq (a := r29.toInt) (b := 0) rfl (by decide +kernel)).mpr c30
                have s30 := sm_t hr29_0 c30
                refine lv_aload_n hx hb dX0_reasonToPut_75 rfl (lv_at hl 0 rfl) ?_
                refine xgT_TA_sight hx hb hts (fun _ h => List.mem_cons_of_mem _ (List.mem_append_left _ (List.mem_append_left _ (List.mem_append_left _ (List.mem_append_right _ h))))) hown hK hP (hts (.fieldLink RX0 34 "TalePlay$Acts" "sight" "LTalePlay$Sight;") (List.mem_cons_of_mem _ (List.mem_append_left _ (List.mem_append_left _ (List.mem_append_left _ (List.mem_append_left _ (List.mem_append_left _ (List.mem_of_getElem? (i := 0) rfl)))))))) dX0_reasonToPut_76 ?_
                refine xgT_TG_reached hx hb hts (fun _ h => List.mem_cons_of_mem _ (List.mem_append_left _ (List.mem_append_left _ (List.mem_append_right _ h)))) hown hK hP (hts (.fieldLink RX0 118 "TalePlay$Sight" "reached" "[Z") (List.mem_cons_of_mem _ (List.mem_append_left _ (List.mem_append_left _ (List.mem_append_left _ (List.mem_append_left _ (List.mem_append_right _ (List.mem_append_left _ (List.mem_of_getElem? (i := 6) rfl))))))))) dX0_reasonToPut_79 ?_
                refine lv_iload_n hx hb dX0_reasonToPut_82 rfl (lv_at hl 3 rfl) ?_
                refine xlT_153 hx hb hK hP (vp_in_iff.mpr (by have h9 : w2.toInt = w2.toInt := rfl; omega)) dX0_reasonToPut_83 (fun x31 ex31 => ?_)
                have rx31 : 0 ≤ x31.toInt ∧ x31.toInt ≤ 1 := by rw [ex31]; exact hI.2 153 _
                have gx31 : (c 153 (w2 : Int32).toNatClampNeg).toInt = x31.toInt := (congrArg Int32.toInt ex31).symm
                have hrc : (c 153 w2.toInt.toNat).toInt = x31.toInt := gx31
                refine lv_if_ne (tgt := 90) hx hb dX0_reasonToPut_84 (by decide +kernel) (fun c32 => ?_) (fun c32 => ?_)
                · have f32 := mt (ti_eq (a := x31.toInt) (b := 0) rfl (by decide +kernel)).mpr c32
                  refine lv_aload_n hx hb dX0_reasonToPut_90 rfl (lv_at hl 0 rfl) ?_
                  refine xgT_TA_scene hx hb hts (fun _ h => List.mem_cons_of_mem _ (List.mem_append_left _ (List.mem_append_left _ (List.mem_append_left _ (List.mem_append_right _ h))))) hown hK hP (hts (.fieldLink RX0 33 "TalePlay$Acts" "scene" "LTalePlay$Scene;") (List.mem_cons_of_mem _ (List.mem_append_left _ (List.mem_append_left _ (List.mem_append_left _ (List.mem_append_left _ (List.mem_append_left _ (List.mem_of_getElem? (i := 11) rfl)))))))) dX0_reasonToPut_91 ?_
                  refine lv_iload_n hx hb dX0_reasonToPut_94 rfl (lv_at hl 2 rfl) ?_
                  refine lv_iload_n hx hb dX0_reasonToPut_95 rfl (lv_at hl 3 rfl) ?_
                  refine ro_calli (va_runV (As := [.int f, .int w2]) (rest := []) ⟨hx, hb, hml, hown, hts⟩ (x_X6_countOf_eTS l D H.size .null a t i q c d f w2 hI (show 0 ≤ f.toInt ∧ f.toInt ≤ 7 from by omega) (show 0 ≤ w2.toInt ∧ w2.toInt ≤ 31 from by omega)) (cwV 2 hts gm_X0_reasonToPut_eTA_X6_countOf_eTS_134 rfl rfl rfl (by decide +kernel) ⟨Nat.le_of_ble_eq_true rfl, Nat.le_of_ble_eq_true rfl⟩) (yA_V hN (xZ_k hZ hS hA) (xkT_Q1 hK) (xuT_Q1 (sk := sk) hP) (ci := 6) (q0 := 0) rfl rfl) rfl rfl hl.1 rfl (lv_room (Nat.le_of_ble_eq_true rfl)) dX0_reasonToPut_96 ⟨Nat.le_of_ble_eq_true rfl, Nat.le_of_ble_eq_true rfl⟩) hS hA hP (fun r33 u33 H locs hw33 hP hS => ?_)
                  have hw33 : ((0 ≤ r33.toInt ∧ r33.toInt ≤ 30) ∧ (r33.toInt = ((cnt (lsP (c 150) f.toInt w2.toInt) (i 111).toInt.toNat : Nat) : Int))) := hw33
                  obtain ⟨hw33, hr33_0⟩ := hw33
                  have hr33_0 : r33.toInt = ((cnt (lsP (c 150) f.toInt w2.toInt) (i 111).toInt.toNat : Nat) : Int) := hr33_0
                  refine lv_bipush (v := 8) hx hb dX0_reasonToPut_99 (by decide +kernel) ?_
                  refine lv_icmp_lt (tgt := 109) hx hb dX0_reasonToPut_101 (by decide +kernel) (fun c34 => ?_) (fun c34 => ?_)
                  · have f34 := (ti_lt (a := r33.toInt) (b := 8) rfl (by decide +kernel)).mp c34
                    refine lv_iconst (v := 0) hx hb dX0_reasonToPut_109 (by decide +kernel) ?_
                    exact ro_iret hx hb hr hlocks hS dX0_reasonToPut_110 ⟨(show 0 ≤ (0 : Int32).toInt ∧ (0 : Int32).toInt ≤ 14 from by decide +kernel), (show (0 : Int32).toInt = putV ((c 152 w2.toInt.toNat).toInt = 1) (((f.toInt : Int) = 0 ∧ (zX (c 106) (c 108) (i 111).toInt) w2.toInt = 3) ∨ (¬ (f.toInt : Int) = 0 ∧ (zX (c 106) (c 108) (i 111).toInt) w2.toInt = 4)) (w2.toInt = w1.toInt ∨ ChB 30 (hF (c 150)) ((hF (c 150)) w2.toInt) w1.toInt) ((f.toInt : Int) = 0 ∧ ¬ (bT (c 150) 0) w2.toInt) ((c 153 w2.toInt.toNat).toInt = 1) (8 ≤ ((cnt (lsP (c 150) f.toInt w2.toInt) (i 111).toInt.toNat : Nat) : Int)) from by unfold putV; rw [iV_n (by omega), iV_n (by omega), iV_n (fun h9 => h9.elim (fun h8 => by omega) s23), iV_n (fun h9 => h9.2 s30), iV_n (by omega), iV_n (by rw [← hr33_0]; omega)]; first | done | decide)⟩
                  · have f34 := mt (ti_lt (a := r33.toInt) (b := 8) rfl (by decide +kernel)).mpr c34
                    refine lv_bipush (v := 14) hx hb dX0_reasonToPut_104 (by decide +kernel) ?_
                    refine lv_goto (tgt := 110) hx hb dX0_reasonToPut_106 (by decide +kernel) ?_
                    exact ro_iret hx hb hr hlocks hS dX0_reasonToPut_110 ⟨(show 0 ≤ (14 : Int32).toInt ∧ (14 : Int32).toInt ≤ 14 from by decide +kernel), (show (14 : Int32).toInt = putV ((c 152 w2.toInt.toNat).toInt = 1) (((f.toInt : Int) = 0 ∧ (zX (c 106) (c 108) (i 111).toInt) w2.toInt = 3) ∨ (¬ (f.toInt : Int) = 0 ∧ (zX (c 106) (c 108) (i 111).toInt) w2.toInt = 4)) (w2.toInt = w1.toInt ∨ ChB 30 (hF (c 150)) ((hF (c 150)) w2.toInt) w1.toInt) ((f.toInt : Int) = 0 ∧ ¬ (bT (c 150) 0) w2.toInt) ((c 153 w2.toInt.toNat).toInt = 1) (8 ≤ ((cnt (lsP (c 150) f.toInt w2.toInt) (i 111).toInt.toNat : Nat) : Int)) from by unfold putV; rw [iV_n (by omega), iV_n (by omega), iV_n (fun h9 => h9.elim (fun h8 => by omega) s23), iV_n (fun h9 => h9.2 s30), iV_n (by omega), iV_y (by rw [← hr33_0]; omega)]; first | done | decide)⟩
                · have f32 := (ti_eq (a := x31.toInt) (b := 0) rfl (by decide +kernel)).mp c32
                  refine lv_bipush (v := 8) hx hb dX0_reasonToPut_87 (by decide +kernel) ?_
                  exact ro_iret hx hb hr hlocks hS dX0_reasonToPut_89 ⟨(show 0 ≤ (8 : Int32).toInt ∧ (8 : Int32).toInt ≤ 14 from by decide +kernel), (show (8 : Int32).toInt = putV ((c 152 w2.toInt.toNat).toInt = 1) (((f.toInt : Int) = 0 ∧ (zX (c 106) (c 108) (i 111).toInt) w2.toInt = 3) ∨ (¬ (f.toInt : Int) = 0 ∧ (zX (c 106) (c 108) (i 111).toInt) w2.toInt = 4)) (w2.toInt = w1.toInt ∨ ChB 30 (hF (c 150)) ((hF (c 150)) w2.toInt) w1.toInt) ((f.toInt : Int) = 0 ∧ ¬ (bT (c 150) 0) w2.toInt) ((c 153 w2.toInt.toNat).toInt = 1) (8 ≤ ((cnt (lsP (c 150) f.toInt w2.toInt) (i 111).toInt.toNat : Nat) : Int)) from by unfold putV; rw [iV_n (by omega), iV_n (by omega), iV_n (fun h9 => h9.elim (fun h8 => by omega) s23), iV_n (fun h9 => h9.2 s30), iV_y (by omega)]; first | done | decide)⟩
              · have f30 := (ti_eq (a := r29.toInt) (b := 0) rfl (by decide +kernel)).mp c30
                have s30 := sm_f hr29_0 c30
                refine lv_iconst (v := 3) hx hb dX0_reasonToPut_73 (by decide +kernel) ?_
                exact ro_iret hx hb hr hlocks hS dX0_reasonToPut_74 ⟨(show 0 ≤ (3 : Int32).toInt ∧ (3 : Int32).toInt ≤ 14 from by decide +kernel), (show (3 : Int32).toInt = putV ((c 152 w2.toInt.toNat).toInt = 1) (((f.toInt : Int) = 0 ∧ (zX (c 106) (c 108) (i 111).toInt) w2.toInt = 3) ∨ (¬ (f.toInt : Int) = 0 ∧ (zX (c 106) (c 108) (i 111).toInt) w2.toInt = 4)) (w2.toInt = w1.toInt ∨ ChB 30 (hF (c 150)) ((hF (c 150)) w2.toInt) w1.toInt) ((f.toInt : Int) = 0 ∧ ¬ (bT (c 150) 0) w2.toInt) ((c 153 w2.toInt.toNat).toInt = 1) (8 ≤ ((cnt (lsP (c 150) f.toInt w2.toInt) (i 111).toInt.toNat : Nat) : Int)) from by unfold putV; rw [iV_n (by omega), iV_n (by omega), iV_n (fun h9 => h9.elim (fun h8 => by omega) s23), iV_y ⟨by omega, s30⟩]; first | done | decide)⟩
          · have f23 := mt (ti_eq (a := r22.toInt) (b := 0) rfl (by decide +kernel)).mpr c23
            have s23 := sm_t hr22_0 c23
            refine lv_bipush (v := 13) hx hb dX0_reasonToPut_54 (by decide +kernel) ?_
            exact ro_iret hx hb hr hlocks hS dX0_reasonToPut_56 ⟨(show 0 ≤ (13 : Int32).toInt ∧ (13 : Int32).toInt ≤ 14 from by decide +kernel), (show (13 : Int32).toInt = putV ((c 152 w2.toInt.toNat).toInt = 1) (((f.toInt : Int) = 0 ∧ (zX (c 106) (c 108) (i 111).toInt) w2.toInt = 3) ∨ (¬ (f.toInt : Int) = 0 ∧ (zX (c 106) (c 108) (i 111).toInt) w2.toInt = 4)) (w2.toInt = w1.toInt ∨ ChB 30 (hF (c 150)) ((hF (c 150)) w2.toInt) w1.toInt) ((f.toInt : Int) = 0 ∧ ¬ (bT (c 150) 0) w2.toInt) ((c 153 w2.toInt.toNat).toInt = 1) (8 ≤ ((cnt (lsP (c 150) f.toInt w2.toInt) (i 111).toInt.toNat : Nat) : Int)) from by unfold putV; rw [iV_n (by omega), iV_n (by omega), iV_y (by first | exact Or.inl (by omega) | exact Or.inr s23)]; first | done | decide)⟩
      · have f20 := mt (ti_eq (a := r3.toInt) (b := 3) rfl (by decide +kernel)).mpr c20
        refine lv_bipush (v := 12) hx hb dX0_reasonToPut_34 (by decide +kernel) ?_
        exact ro_iret hx hb hr hlocks hS dX0_reasonToPut_36 ⟨(show 0 ≤ (12 : Int32).toInt ∧ (12 : Int32).toInt ≤ 14 from by decide +kernel), (show (12 : Int32).toInt = putV ((c 152 w2.toInt.toNat).toInt = 1) (((f.toInt : Int) = 0 ∧ (zX (c 106) (c 108) (i 111).toInt) w2.toInt = 3) ∨ (¬ (f.toInt : Int) = 0 ∧ (zX (c 106) (c 108) (i 111).toInt) w2.toInt = 4)) (w2.toInt = w1.toInt ∨ ChB 30 (hF (c 150)) ((hF (c 150)) w2.toInt) w1.toInt) ((f.toInt : Int) = 0 ∧ ¬ (bT (c 150) 0) w2.toInt) ((c 153 w2.toInt.toNat).toInt = 1) (8 ≤ ((cnt (lsP (c 150) f.toInt w2.toInt) (i 111).toInt.toNat : Nat) : Int)) from by unfold putV; rw [iV_n (by omega), iV_y (by omega)]; first | done | decide)⟩
  · have f2 := (ti_eq (a := x1.toInt) (b := 0) rfl (by decide +kernel)).mp c2
    refine lv_iconst (v := 4) hx hb dX0_reasonToPut_12 (by decide +kernel) ?_
    exact ro_iret hx hb hr hlocks hS dX0_reasonToPut_13 ⟨(show 0 ≤ (4 : Int32).toInt ∧ (4 : Int32).toInt ≤ 14 from by decide +kernel), (show (4 : Int32).toInt = putV ((c 152 w2.toInt.toNat).toInt = 1) (((f.toInt : Int) = 0 ∧ (zX (c 106) (c 108) (i 111).toInt) w2.toInt = 3) ∨ (¬ (f.toInt : Int) = 0 ∧ (zX (c 106) (c 108) (i 111).toInt) w2.toInt = 4)) (w2.toInt = w1.toInt ∨ ChB 30 (hF (c 150)) ((hF (c 150)) w2.toInt) w1.toInt) ((f.toInt : Int) = 0 ∧ ¬ (bT (c 150) 0) w2.toInt) ((c 153 w2.toInt.toNat).toInt = 1) (8 ≤ ((cnt (lsP (c 150) f.toInt w2.toInt) (i 111).toInt.toNat : Nat) : Int)) from by unfold putV; rw [iV_y (by omega)]; first | done | decide)⟩

set_option maxHeartbeats 4000000 in
set_option maxRecDepth 100000 in
theorem c_X0_reasonOfLeaf_e (l : Launch) (D : va_G) (sz : Nat) (v : Int32) (y : Int32) (z : Int32) : Met l yX0_reasonOfLeaf wm_X0_reasonOfLeaf ({ frames := 0, cells := 0, slots := 0, locals := 0 }) (va_Pc [.int v, .int y, .int z] (pA D sz [] [])) (va_Qi (fun (r : Int32) (_ : Unit) => r.toInt = leafV v.toInt (¬ y.toInt = 0) (¬ z.toInt = 0) 0) oA (ro sz)) 0 0 (ro sz) := by
  refine Met.ofW (cc := cX0_reasonOfLeaf) (maxL := 3) (ret := (some .int)) (by decide +kernel) rfl ?_
  intro p e s m args below meth c s₁ B hml hv
  obtain ⟨rfl, hsz, hP, hK⟩ := hv
  have hx := B.exec
  have hb := B.bytes
  have hr := B.returns
  have hts := atoms_spec (ws := wm_X0_reasonOfLeaf) B.pre
  have hown : s.vm.findClass RX0 = some m.cls := findClass_of_methodNamed B.named
  have hlocks := B.notSynchronized
  subst hsz
  have hA : ∀ q : Nat, s.heap.size ≤ q → ro s.heap.size q := fun _ h => h
  have hS : va_S (ro s.heap.size) s.heap s.heap [] := va_S.rf
  have hP : va_P D vwCl [] s.heap := hP
  have hl := lv_entry ([.int v, .int y, .int z]) (n := 3) (Nat.le_of_ble_eq_true rfl)
  rw [lg_entry_eq]
  generalize (lg_sl ([.int v, .int y, .int z]) ++ List.replicate (3 - (lg_sl ([.int v, .int y, .int z])).length) Slot.unset).toArray = ls at hl ⊢
  have hl : lv_has ls 3 [(0, .int v), (1, .int y), (2, .int z)] := hl
  refine lv_iload_n hx hb dX0_reasonOfLeaf_0 rfl (lv_at hl 0 rfl) ?_
  rcases (show (v.toInt < 5 ∨ 7 < v.toInt) ∨ v.toInt = 5 ∨ v.toInt = 6 ∨ v.toInt = 7 by omega) with f1 | f1 | f1 | f1
  · refine lv_tableOut (tgt := 75) hx hb dX0_reasonOfLeaf_1 f1 (by decide +kernel) ?_
    refine lv_iload_n hx hb dX0_reasonOfLeaf_75 rfl (lv_at hl 2 rfl) ?_
    refine lv_if_eq (tgt := 84) hx hb dX0_reasonOfLeaf_76 (by decide +kernel) (fun c2 => ?_) (fun c2 => ?_)
    · have f2 := (ti_eq (a := z.toInt) (b := 0) rfl (by decide +kernel)).mp c2
      refine lv_iload_n hx hb dX0_reasonOfLeaf_84 rfl (lv_at hl 1 rfl) ?_
      refine lv_if_eq (tgt := 93) hx hb dX0_reasonOfLeaf_85 (by decide +kernel) (fun c3 => ?_) (fun c3 => ?_)
      · have f3 := (ti_eq (a := y.toInt) (b := 0) rfl (by decide +kernel)).mp c3
        refine lv_iconst (v := 0) hx hb dX0_reasonOfLeaf_93 (by decide +kernel) ?_
        exact ro_iret hx hb hr hlocks hS dX0_reasonOfLeaf_94 (by unfold leafV; first | (rw [if_pos (by omega)]; (first | (rw [iV_y (by omega)]; (first | done | decide); done) | (rw [iV_n (by omega), iV_y (by omega)]; (first | done | decide); done) | (rw [iV_n (by omega), iV_n (by omega)]; (first | done | decide); done) | (rw [iV_n (by omega)]; (first | done | decide); done))) | (rw [if_neg (by omega), if_pos (by omega)]; (first | (rw [iV_y (by omega)]; (first | done | decide); done) | (rw [iV_n (by omega), iV_y (by omega)]; (first | done | decide); done) | (rw [iV_n (by omega), iV_n (by omega)]; (first | done | decide); done) | (rw [iV_n (by omega)]; (first | done | decide); done))) | (rw [if_neg (by omega), if_neg (by omega), if_pos (by omega)]; (first | (rw [iV_y (by omega)]; (first | done | decide); done) | (rw [iV_n (by omega), iV_y (by omega)]; (first | done | decide); done) | (rw [iV_n (by omega), iV_n (by omega)]; (first | done | decide); done) | (rw [iV_n (by omega)]; (first | done | decide); done))) | (rw [if_neg (by omega), if_neg (by omega), if_neg (by omega)]; (first | (rw [iV_y (by omega)]; (first | done | decide); done) | (rw [iV_n (by omega), iV_y (by omega)]; (first | done | decide); done) | (rw [iV_n (by omega), iV_n (by omega)]; (first | done | decide); done) | (rw [iV_n (by omega)]; (first | done | decide); done))))
      · have f3 := mt (ti_eq (a := y.toInt) (b := 0) rfl (by decide +kernel)).mpr c3
        refine lv_bipush (v := 15) hx hb dX0_reasonOfLeaf_88 (by decide +kernel) ?_
        refine lv_goto (tgt := 94) hx hb dX0_reasonOfLeaf_90 (by decide +kernel) ?_
        exact ro_iret hx hb hr hlocks hS dX0_reasonOfLeaf_94 (by unfold leafV; first | (rw [if_pos (by omega)]; (first | (rw [iV_y (by omega)]; (first | done | decide); done) | (rw [iV_n (by omega), iV_y (by omega)]; (first | done | decide); done) | (rw [iV_n (by omega), iV_n (by omega)]; (first | done | decide); done) | (rw [iV_n (by omega)]; (first | done | decide); done))) | (rw [if_neg (by omega), if_pos (by omega)]; (first | (rw [iV_y (by omega)]; (first | done | decide); done) | (rw [iV_n (by omega), iV_y (by omega)]; (first | done | decide); done) | (rw [iV_n (by omega), iV_n (by omega)]; (first | done | decide); done) | (rw [iV_n (by omega)]; (first | done | decide); done))) | (rw [if_neg (by omega), if_neg (by omega), if_pos (by omega)]; (first | (rw [iV_y (by omega)]; (first | done | decide); done) | (rw [iV_n (by omega), iV_y (by omega)]; (first | done | decide); done) | (rw [iV_n (by omega), iV_n (by omega)]; (first | done | decide); done) | (rw [iV_n (by omega)]; (first | done | decide); done))) | (rw [if_neg (by omega), if_neg (by omega), if_neg (by omega)]; (first | (rw [iV_y (by omega)]; (first | done | decide); done) | (rw [iV_n (by omega), iV_y (by omega)]; (first | done | decide); done) | (rw [iV_n (by omega), iV_n (by omega)]; (first | done | decide); done) | (rw [iV_n (by omega)]; (first | done | decide); done))))
    · have f2 := mt (ti_eq (a := z.toInt) (b := 0) rfl (by decide +kernel)).mpr c2
      refine lv_bipush (v := 16) hx hb dX0_reasonOfLeaf_79 (by decide +kernel) ?_
      refine lv_goto (tgt := 94) hx hb dX0_reasonOfLeaf_81 (by decide +kernel) ?_
      exact ro_iret hx hb hr hlocks hS dX0_reasonOfLeaf_94 (by unfold leafV; first | (rw [if_pos (by omega)]; (first | (rw [iV_y (by omega)]; (first | done | decide); done) | (rw [iV_n (by omega), iV_y (by omega)]; (first | done | decide); done) | (rw [iV_n (by omega), iV_n (by omega)]; (first | done | decide); done) | (rw [iV_n (by omega)]; (first | done | decide); done))) | (rw [if_neg (by omega), if_pos (by omega)]; (first | (rw [iV_y (by omega)]; (first | done | decide); done) | (rw [iV_n (by omega), iV_y (by omega)]; (first | done | decide); done) | (rw [iV_n (by omega), iV_n (by omega)]; (first | done | decide); done) | (rw [iV_n (by omega)]; (first | done | decide); done))) | (rw [if_neg (by omega), if_neg (by omega), if_pos (by omega)]; (first | (rw [iV_y (by omega)]; (first | done | decide); done) | (rw [iV_n (by omega), iV_y (by omega)]; (first | done | decide); done) | (rw [iV_n (by omega), iV_n (by omega)]; (first | done | decide); done) | (rw [iV_n (by omega)]; (first | done | decide); done))) | (rw [if_neg (by omega), if_neg (by omega), if_neg (by omega)]; (first | (rw [iV_y (by omega)]; (first | done | decide); done) | (rw [iV_n (by omega), iV_y (by omega)]; (first | done | decide); done) | (rw [iV_n (by omega), iV_n (by omega)]; (first | done | decide); done) | (rw [iV_n (by omega)]; (first | done | decide); done))))
  · refine lv_tableIn (off := 27) (tgt := 28) hx hb dX0_reasonOfLeaf_1 (by omega) (by omega) (by rw [f1]; rfl) (by decide +kernel) ?_
    refine lv_iload_n hx hb dX0_reasonOfLeaf_28 rfl (lv_at hl 1 rfl) ?_
    refine lv_if_eq (tgt := 37) hx hb dX0_reasonOfLeaf_29 (by decide +kernel) (fun c4 => ?_) (fun c4 => ?_)
    · have f4 := (ti_eq (a := y.toInt) (b := 0) rfl (by decide +kernel)).mp c4
      refine lv_iload_n hx hb dX0_reasonOfLeaf_37 rfl (lv_at hl 2 rfl) ?_
      refine lv_if_eq (tgt := 46) hx hb dX0_reasonOfLeaf_38 (by decide +kernel) (fun c5 => ?_) (fun c5 => ?_)
      · have f5 := (ti_eq (a := z.toInt) (b := 0) rfl (by decide +kernel)).mp c5
        refine lv_iconst (v := 0) hx hb dX0_reasonOfLeaf_46 (by decide +kernel) ?_
        refine lv_goto (tgt := 94) hx hb dX0_reasonOfLeaf_47 (by decide +kernel) ?_
        exact ro_iret hx hb hr hlocks hS dX0_reasonOfLeaf_94 (by unfold leafV; first | (rw [if_pos (by omega)]; (first | (rw [iV_y (by omega)]; (first | done | decide); done) | (rw [iV_n (by omega), iV_y (by omega)]; (first | done | decide); done) | (rw [iV_n (by omega), iV_n (by omega)]; (first | done | decide); done) | (rw [iV_n (by omega)]; (first | done | decide); done))) | (rw [if_neg (by omega), if_pos (by omega)]; (first | (rw [iV_y (by omega)]; (first | done | decide); done) | (rw [iV_n (by omega), iV_y (by omega)]; (first | done | decide); done) | (rw [iV_n (by omega), iV_n (by omega)]; (first | done | decide); done) | (rw [iV_n (by omega)]; (first | done | decide); done))) | (rw [if_neg (by omega), if_neg (by omega), if_pos (by omega)]; (first | (rw [iV_y (by omega)]; (first | done | decide); done) | (rw [iV_n (by omega), iV_y (by omega)]; (first | done | decide); done) | (rw [iV_n (by omega), iV_n (by omega)]; (first | done | decide); done) | (rw [iV_n (by omega)]; (first | done | decide); done))) | (rw [if_neg (by omega), if_neg (by omega), if_neg (by omega)]; (first | (rw [iV_y (by omega)]; (first | done | decide); done) | (rw [iV_n (by omega), iV_y (by omega)]; (first | done | decide); done) | (rw [iV_n (by omega), iV_n (by omega)]; (first | done | decide); done) | (rw [iV_n (by omega)]; (first | done | decide); done))))
      · have f5 := mt (ti_eq (a := z.toInt) (b := 0) rfl (by decide +kernel)).mpr c5
        refine lv_bipush (v := 16) hx hb dX0_reasonOfLeaf_41 (by decide +kernel) ?_
        refine lv_goto (tgt := 94) hx hb dX0_reasonOfLeaf_43 (by decide +kernel) ?_
        exact ro_iret hx hb hr hlocks hS dX0_reasonOfLeaf_94 (by unfold leafV; first | (rw [if_pos (by omega)]; (first | (rw [iV_y (by omega)]; (first | done | decide); done) | (rw [iV_n (by omega), iV_y (by omega)]; (first | done | decide); done) | (rw [iV_n (by omega), iV_n (by omega)]; (first | done | decide); done) | (rw [iV_n (by omega)]; (first | done | decide); done))) | (rw [if_neg (by omega), if_pos (by omega)]; (first | (rw [iV_y (by omega)]; (first | done | decide); done) | (rw [iV_n (by omega), iV_y (by omega)]; (first | done | decide); done) | (rw [iV_n (by omega), iV_n (by omega)]; (first | done | decide); done) | (rw [iV_n (by omega)]; (first | done | decide); done))) | (rw [if_neg (by omega), if_neg (by omega), if_pos (by omega)]; (first | (rw [iV_y (by omega)]; (first | done | decide); done) | (rw [iV_n (by omega), iV_y (by omega)]; (first | done | decide); done) | (rw [iV_n (by omega), iV_n (by omega)]; (first | done | decide); done) | (rw [iV_n (by omega)]; (first | done | decide); done))) | (rw [if_neg (by omega), if_neg (by omega), if_neg (by omega)]; (first | (rw [iV_y (by omega)]; (first | done | decide); done) | (rw [iV_n (by omega), iV_y (by omega)]; (first | done | decide); done) | (rw [iV_n (by omega), iV_n (by omega)]; (first | done | decide); done) | (rw [iV_n (by omega)]; (first | done | decide); done))))
    · have f4 := mt (ti_eq (a := y.toInt) (b := 0) rfl (by decide +kernel)).mpr c4
      refine lv_bipush (v := 15) hx hb dX0_reasonOfLeaf_32 (by decide +kernel) ?_
      refine lv_goto (tgt := 94) hx hb dX0_reasonOfLeaf_34 (by decide +kernel) ?_
      exact ro_iret hx hb hr hlocks hS dX0_reasonOfLeaf_94 (by unfold leafV; first | (rw [if_pos (by omega)]; (first | (rw [iV_y (by omega)]; (first | done | decide); done) | (rw [iV_n (by omega), iV_y (by omega)]; (first | done | decide); done) | (rw [iV_n (by omega), iV_n (by omega)]; (first | done | decide); done) | (rw [iV_n (by omega)]; (first | done | decide); done))) | (rw [if_neg (by omega), if_pos (by omega)]; (first | (rw [iV_y (by omega)]; (first | done | decide); done) | (rw [iV_n (by omega), iV_y (by omega)]; (first | done | decide); done) | (rw [iV_n (by omega), iV_n (by omega)]; (first | done | decide); done) | (rw [iV_n (by omega)]; (first | done | decide); done))) | (rw [if_neg (by omega), if_neg (by omega), if_pos (by omega)]; (first | (rw [iV_y (by omega)]; (first | done | decide); done) | (rw [iV_n (by omega), iV_y (by omega)]; (first | done | decide); done) | (rw [iV_n (by omega), iV_n (by omega)]; (first | done | decide); done) | (rw [iV_n (by omega)]; (first | done | decide); done))) | (rw [if_neg (by omega), if_neg (by omega), if_neg (by omega)]; (first | (rw [iV_y (by omega)]; (first | done | decide); done) | (rw [iV_n (by omega), iV_y (by omega)]; (first | done | decide); done) | (rw [iV_n (by omega), iV_n (by omega)]; (first | done | decide); done) | (rw [iV_n (by omega)]; (first | done | decide); done))))
  · refine lv_tableIn (off := 49) (tgt := 50) hx hb dX0_reasonOfLeaf_1 (by omega) (by omega) (by rw [f1]; rfl) (by decide +kernel) ?_
    refine lv_iload_n hx hb dX0_reasonOfLeaf_50 rfl (lv_at hl 1 rfl) ?_
    refine lv_if_eq (tgt := 58) hx hb dX0_reasonOfLeaf_51 (by decide +kernel) (fun c6 => ?_) (fun c6 => ?_)
    · have f6 := (ti_eq (a := y.toInt) (b := 0) rfl (by decide +kernel)).mp c6
      refine lv_iconst (v := 3) hx hb dX0_reasonOfLeaf_58 (by decide +kernel) ?_
      refine lv_goto (tgt := 94) hx hb dX0_reasonOfLeaf_59 (by decide +kernel) ?_
      exact ro_iret hx hb hr hlocks hS dX0_reasonOfLeaf_94 (by unfold leafV; first | (rw [if_pos (by omega)]; (first | (rw [iV_y (by omega)]; (first | done | decide); done) | (rw [iV_n (by omega), iV_y (by omega)]; (first | done | decide); done) | (rw [iV_n (by omega), iV_n (by omega)]; (first | done | decide); done) | (rw [iV_n (by omega)]; (first | done | decide); done))) | (rw [if_neg (by omega), if_pos (by omega)]; (first | (rw [iV_y (by omega)]; (first | done | decide); done) | (rw [iV_n (by omega), iV_y (by omega)]; (first | done | decide); done) | (rw [iV_n (by omega), iV_n (by omega)]; (first | done | decide); done) | (rw [iV_n (by omega)]; (first | done | decide); done))) | (rw [if_neg (by omega), if_neg (by omega), if_pos (by omega)]; (first | (rw [iV_y (by omega)]; (first | done | decide); done) | (rw [iV_n (by omega), iV_y (by omega)]; (first | done | decide); done) | (rw [iV_n (by omega), iV_n (by omega)]; (first | done | decide); done) | (rw [iV_n (by omega)]; (first | done | decide); done))) | (rw [if_neg (by omega), if_neg (by omega), if_neg (by omega)]; (first | (rw [iV_y (by omega)]; (first | done | decide); done) | (rw [iV_n (by omega), iV_y (by omega)]; (first | done | decide); done) | (rw [iV_n (by omega), iV_n (by omega)]; (first | done | decide); done) | (rw [iV_n (by omega)]; (first | done | decide); done))))
    · have f6 := mt (ti_eq (a := y.toInt) (b := 0) rfl (by decide +kernel)).mpr c6
      refine lv_iconst (v := 0) hx hb dX0_reasonOfLeaf_54 (by decide +kernel) ?_
      refine lv_goto (tgt := 94) hx hb dX0_reasonOfLeaf_55 (by decide +kernel) ?_
      exact ro_iret hx hb hr hlocks hS dX0_reasonOfLeaf_94 (by unfold leafV; first | (rw [if_pos (by omega)]; (first | (rw [iV_y (by omega)]; (first | done | decide); done) | (rw [iV_n (by omega), iV_y (by omega)]; (first | done | decide); done) | (rw [iV_n (by omega), iV_n (by omega)]; (first | done | decide); done) | (rw [iV_n (by omega)]; (first | done | decide); done))) | (rw [if_neg (by omega), if_pos (by omega)]; (first | (rw [iV_y (by omega)]; (first | done | decide); done) | (rw [iV_n (by omega), iV_y (by omega)]; (first | done | decide); done) | (rw [iV_n (by omega), iV_n (by omega)]; (first | done | decide); done) | (rw [iV_n (by omega)]; (first | done | decide); done))) | (rw [if_neg (by omega), if_neg (by omega), if_pos (by omega)]; (first | (rw [iV_y (by omega)]; (first | done | decide); done) | (rw [iV_n (by omega), iV_y (by omega)]; (first | done | decide); done) | (rw [iV_n (by omega), iV_n (by omega)]; (first | done | decide); done) | (rw [iV_n (by omega)]; (first | done | decide); done))) | (rw [if_neg (by omega), if_neg (by omega), if_neg (by omega)]; (first | (rw [iV_y (by omega)]; (first | done | decide); done) | (rw [iV_n (by omega), iV_y (by omega)]; (first | done | decide); done) | (rw [iV_n (by omega), iV_n (by omega)]; (first | done | decide); done) | (rw [iV_n (by omega)]; (first | done | decide); done))))
  · refine lv_tableIn (off := 61) (tgt := 62) hx hb dX0_reasonOfLeaf_1 (by omega) (by omega) (by rw [f1]; rfl) (by decide +kernel) ?_
    refine lv_iload_n hx hb dX0_reasonOfLeaf_62 rfl (lv_at hl 2 rfl) ?_
    refine lv_if_eq (tgt := 70) hx hb dX0_reasonOfLeaf_63 (by decide +kernel) (fun c7 => ?_) (fun c7 => ?_)
    · have f7 := (ti_eq (a := z.toInt) (b := 0) rfl (by decide +kernel)).mp c7
      refine lv_bipush (v := 17) hx hb dX0_reasonOfLeaf_70 (by decide +kernel) ?_
      refine lv_goto (tgt := 94) hx hb dX0_reasonOfLeaf_72 (by decide +kernel) ?_
      exact ro_iret hx hb hr hlocks hS dX0_reasonOfLeaf_94 (by unfold leafV; first | (rw [if_pos (by omega)]; (first | (rw [iV_y (by omega)]; (first | done | decide); done) | (rw [iV_n (by omega), iV_y (by omega)]; (first | done | decide); done) | (rw [iV_n (by omega), iV_n (by omega)]; (first | done | decide); done) | (rw [iV_n (by omega)]; (first | done | decide); done))) | (rw [if_neg (by omega), if_pos (by omega)]; (first | (rw [iV_y (by omega)]; (first | done | decide); done) | (rw [iV_n (by omega), iV_y (by omega)]; (first | done | decide); done) | (rw [iV_n (by omega), iV_n (by omega)]; (first | done | decide); done) | (rw [iV_n (by omega)]; (first | done | decide); done))) | (rw [if_neg (by omega), if_neg (by omega), if_pos (by omega)]; (first | (rw [iV_y (by omega)]; (first | done | decide); done) | (rw [iV_n (by omega), iV_y (by omega)]; (first | done | decide); done) | (rw [iV_n (by omega), iV_n (by omega)]; (first | done | decide); done) | (rw [iV_n (by omega)]; (first | done | decide); done))) | (rw [if_neg (by omega), if_neg (by omega), if_neg (by omega)]; (first | (rw [iV_y (by omega)]; (first | done | decide); done) | (rw [iV_n (by omega), iV_y (by omega)]; (first | done | decide); done) | (rw [iV_n (by omega), iV_n (by omega)]; (first | done | decide); done) | (rw [iV_n (by omega)]; (first | done | decide); done))))
    · have f7 := mt (ti_eq (a := z.toInt) (b := 0) rfl (by decide +kernel)).mpr c7
      refine lv_iconst (v := 0) hx hb dX0_reasonOfLeaf_66 (by decide +kernel) ?_
      refine lv_goto (tgt := 94) hx hb dX0_reasonOfLeaf_67 (by decide +kernel) ?_
      exact ro_iret hx hb hr hlocks hS dX0_reasonOfLeaf_94 (by unfold leafV; first | (rw [if_pos (by omega)]; (first | (rw [iV_y (by omega)]; (first | done | decide); done) | (rw [iV_n (by omega), iV_y (by omega)]; (first | done | decide); done) | (rw [iV_n (by omega), iV_n (by omega)]; (first | done | decide); done) | (rw [iV_n (by omega)]; (first | done | decide); done))) | (rw [if_neg (by omega), if_pos (by omega)]; (first | (rw [iV_y (by omega)]; (first | done | decide); done) | (rw [iV_n (by omega), iV_y (by omega)]; (first | done | decide); done) | (rw [iV_n (by omega), iV_n (by omega)]; (first | done | decide); done) | (rw [iV_n (by omega)]; (first | done | decide); done))) | (rw [if_neg (by omega), if_neg (by omega), if_pos (by omega)]; (first | (rw [iV_y (by omega)]; (first | done | decide); done) | (rw [iV_n (by omega), iV_y (by omega)]; (first | done | decide); done) | (rw [iV_n (by omega), iV_n (by omega)]; (first | done | decide); done) | (rw [iV_n (by omega)]; (first | done | decide); done))) | (rw [if_neg (by omega), if_neg (by omega), if_neg (by omega)]; (first | (rw [iV_y (by omega)]; (first | done | decide); done) | (rw [iV_n (by omega), iV_y (by omega)]; (first | done | decide); done) | (rw [iV_n (by omega), iV_n (by omega)]; (first | done | decide); done) | (rw [iV_n (by omega)]; (first | done | decide); done))))

