/-! a cell's bits -/
def hb (c : Int32) (f : Int) : Prop := bq c (8 + f.toNat) = true
theorem lies_c {h f b x : Int32} (hh : 0 ≤ h.toInt ∧ h.toInt ≤ 31) (hf : 0 ≤ f.toInt ∧ f.toInt ≤ 7) (eb : b = h <<< (3 &&& 31)) (ex : x = b ||| f) : x.toInt = h.toInt * 8 + f.toInt := by
  have e2 : h <<< ((3 : Int32) &&& 31) = nI (2 ^ 3 * h.toInt.toNat) := by
    conv => lhs; rw [x_n hh.1]
    exact shl_n (j := 3) (by omega)
  have e5 : 2 ^ 3 * h.toInt.toNat ||| f.toInt.toNat = 2 ^ 3 * h.toInt.toNat + f.toInt.toNat := (Nat.two_pow_add_eq_or_of_lt (by omega) _).symm
  rw [ex, eb, e2]
  conv => lhs; rw [x_n hf.1]
  rw [or_n, e5, nI_toInt (by omega)]
  omega
theorem bq_x {c : Int32} {i : Nat} (hc : 0 ≤ c.toInt) (hi : i < 32) : bq c i = c.toInt.toNat.testBit i := by
  conv => lhs; rw [x_n hc]
  rw [bq_n, decide_eq_true hi, Bool.true_and]
theorem has_b {c f x s r : Int32} (hc : 0 ≤ c.toInt) (hf : 0 ≤ f.toInt ∧ f.toInt ≤ 5) (ex : x.toInt = 8 + f.toInt) (es : s = c >>> (x &&& 31)) (er : r = s &&& 1) : (r.toInt = 1 ∧ hb c f.toInt) ∨ (r.toInt = 0 ∧ ¬ hb c f.toInt) := by
  have q := Int32.toInt_lt c
  have ej : x = nI (8 + f.toInt.toNat) := by
    have z := x_n (x := x) (by omega)
    rw [show x.toInt.toNat = 8 + f.toInt.toNat by omega] at z
    exact z
  have le : c.toInt.toNat / 2 ^ (8 + f.toInt.toNat) ≤ c.toInt.toNat := Nat.div_le_self _ _
  have e1 : s = nI (c.toInt.toNat / 2 ^ (8 + f.toInt.toNat)) := by
    rw [es, ej]
    conv => lhs; rw [x_n hc]
    exact shr_n (by omega) (by omega)
  have e2 : s.toInt = ((c.toInt.toNat / 2 ^ (8 + f.toInt.toNat) : Nat) : Int) := by rw [e1, nI_toInt (by omega)]
  have e3 := and_m (x := s) (m := 1) (r := r) 1 (by rw [e2]; exact Int.natCast_nonneg _) er (by decide) (by omega)
  unfold hb
  rw [bq_x hc (by omega), Nat.testBit_eq_decide_div_mod_eq, decide_eq_true_eq]
  rw [e2] at e3
  generalize c.toInt.toNat / 2 ^ (8 + f.toInt.toNat) = m at e3 ⊢
  omega
theorem fl_on {c b r : Int32} {k : Nat} (hk : k < 6) (eb : b = nI (2 ^ (8 + k))) (er : r = c ||| b) {f : Int} (hf : 0 ≤ f ∧ f ≤ 5) : hb r f ↔ (f = (k : Int) ∨ hb c f) := by
  unfold hb
  rw [er, bq_or, eb, bq_n, Nat.testBit_two_pow, decide_eq_true (show 8 + f.toNat < 32 by omega), Bool.true_and, Bool.or_eq_true, decide_eq_true_eq]
  constructor
  · intro h
    rcases h with h | h
    · exact Or.inr h
    · exact Or.inl (by omega)
  · intro h
    rcases h with h | h
    · exact Or.inr (by omega)
    · exact Or.inl h
theorem fl_off {c b y r : Int32} {k : Nat} (hk : k < 6) (eb : b = nI (2 ^ (8 + k))) (ey : y = b ^^^ (-1)) (er : r = c &&& y) {f : Int} (hf : 0 ≤ f ∧ f ≤ 5) : hb r f ↔ (¬ f = (k : Int) ∧ hb c f) := by
  have hm : ∀ k, k < 6 → ∀ i, i < 6 → bq (nI (2 ^ (8 + k)) ^^^ (-1)) (8 + i) = !decide (i = k) := by decide +kernel
  unfold hb
  rw [er, bq_and, ey, eb, hm k hk f.toNat (by omega), Bool.and_eq_true]
  constructor
  · intro h
    exact ⟨fun e => absurd (h.2.symm.trans (congrArg Bool.not (decide_eq_true (show f.toNat = k by omega)))) (by decide), h.1⟩
  · intro h
    exact ⟨h.2, (congrArg Bool.not (decide_eq_false (show ¬ f.toNat = k by omega))).trans rfl⟩
theorem pl_hb {c r : Int32} {e b : Int} (hc : 0 ≤ c.toInt) (he : 0 ≤ e ∧ e ≤ 31) (hb_ : 0 ≤ b ∧ b ≤ 7) (er : r.toInt = c.toInt / 256 * 256 + e * 8 + b) {f : Int} (hf : 0 ≤ f ∧ f ≤ 5) : hb r f ↔ hb c f := by
  unfold hb
  rw [bq_x (c := r) (by omega) (by omega), bq_x hc (by omega), show r.toInt.toNat = 2 ^ 8 * (c.toInt.toNat / 2 ^ 8) + (e * 8 + b).toNat by omega, Nat.testBit_two_pow_mul_add _ (show (e * 8 + b).toNat < 2 ^ 8 by omega), if_neg (by omega), Nat.testBit_div_two_pow, show 8 + f.toNat - 8 + 8 = 8 + f.toNat by omega]
/-- a cell without flags -/
theorem hb_0 {c : Int32} (h : 0 ≤ c.toInt ∧ c.toInt ≤ 255) {f : Int} (hf : 0 ≤ f ∧ f ≤ 5) : ¬ hb c f := by
  unfold hb
  rw [bq_x h.1 (by omega), Nat.testBit_lt_two_pow (Nat.lt_of_lt_of_le (show c.toInt.toNat < 2 ^ 8 by omega) (Nat.pow_le_pow_right (by omega) (by omega)))]
  intro w
  cases w
/-! decisions, as numbers -/
noncomputable def iV (P : Prop) (a b : Int) : Int := @ite Int P (Classical.propDecidable P) a b
theorem iV_y {P : Prop} {a b : Int} (h : P) : iV P a b = a := by unfold iV; rw [if_pos h]
theorem iV_n {P : Prop} {a b : Int} (h : ¬ P) : iV P a b = b := by unfold iV; rw [if_neg h]
theorem iV_c {P Q : Prop} {a b c : Int} (h : P ↔ Q) (e : b = c) : iV P a b = iV Q a c := by rw [propext h, e]
theorem iV_d {P : Prop} {a b c : Int} (e : ¬ P → b = c) : iV P a b = iV P a c := by
  by_cases h : P
  · rw [iV_y h, iV_y h]
  · rw [iV_n h, iV_n h, e h]
/-! ways up, as far as a class looks -/
def ChB (k : Nat) (f : Int → Int) (x t : Int) : Prop := ∃ m : Nat, m < k ∧ itr f m x = t
theorem ChB_0 {f : Int → Int} {x t : Int} : ¬ ChB 0 f x t := fun ⟨_, h, _⟩ => Nat.not_lt_zero _ h
theorem ChB_h {k : Nat} {f : Int → Int} {x t : Int} (e : x = t) : ChB (k + 1) f x t := ⟨0, by omega, by show x = t; exact e⟩
theorem itr_s {f : Int → Int} {m : Nat} {x : Int} : itr f (m + 1) x = itr f m (f x) := by rw [show m + 1 = 1 + m by omega, itr_add]; rfl
theorem ChB_n {k : Nat} {f : Int → Int} {x t : Int} (e : ¬ x = t) : ChB (k + 1) f x t ↔ ChB k f (f x) t := by
  constructor
  · rintro ⟨m, h1, h2⟩
    cases m with
    | zero => exact absurd h2 e
    | succ m => exact ⟨m, by omega, by rw [← itr_s]; exact h2⟩
  · rintro ⟨m, h1, h2⟩
    exact ⟨m + 1, by omega, by rw [itr_s]; exact h2⟩
theorem itr_9 {f : Int → Int} (h : f (-9) = -9) : ∀ m, itr f m (-9) = -9 := by
  intro m
  induction m with
  | zero => rfl
  | succ m ih => rw [itr_s, h]; exact ih
theorem ChB_9 {k : Nat} {f : Int → Int} {t : Int} (h : f (-9) = -9) (ht : ¬ t = -9) : ¬ ChB k f (-9) t := by
  rintro ⟨m, _, h2⟩
  rw [itr_9 h] at h2
  exact ht h2.symm
/-- in view of s, with covers cv -/
def InB (k : Nat) (f : Int → Int) (cv : Int → Prop) (s x : Int) : Prop := ∃ m : Nat, m < k ∧ itr f m x = s ∧ ∀ j : Nat, j < m → ¬ itr f j x = s ∧ ¬ cv (itr f j x)
theorem InB_0 {f : Int → Int} {cv : Int → Prop} {s x : Int} : ¬ InB 0 f cv s x := fun ⟨_, h, _⟩ => Nat.not_lt_zero _ h
theorem InB_h {k : Nat} {f : Int → Int} {cv : Int → Prop} {s x : Int} (e : x = s) : InB (k + 1) f cv s x := ⟨0, by omega, by show x = s; exact e, fun j hj => absurd hj (Nat.not_lt_zero _)⟩
theorem InB_n {k : Nat} {f : Int → Int} {cv : Int → Prop} {s x : Int} (e : ¬ x = s) (hc : ¬ cv x) : InB (k + 1) f cv s x ↔ InB k f cv s (f x) := by
  constructor
  · rintro ⟨m, h1, h2, h3⟩
    cases m with
    | zero => exact absurd h2 e
    | succ m => exact ⟨m, by omega, by rw [← itr_s]; exact h2, fun j hj => by rw [← itr_s]; exact h3 (j + 1) (by omega)⟩
  · rintro ⟨m, h1, h2, h3⟩
    refine ⟨m + 1, by omega, by rw [itr_s]; exact h2, fun j hj => ?_⟩
    cases j with
    | zero => exact ⟨e, hc⟩
    | succ j => rw [itr_s]; exact h3 j (by omega)
theorem InB_c {k : Nat} {f : Int → Int} {cv : Int → Prop} {s x : Int} (e : ¬ x = s) (hc : cv x) : ¬ InB k f cv s x := by
  rintro ⟨m, h1, h2, h3⟩
  cases m with
  | zero => exact e h2
  | succ m => exact (h3 0 (by omega)).2 hc
theorem InB_9 {k : Nat} {f : Int → Int} {cv : Int → Prop} {s : Int} (h : f (-9) = -9) (ht : ¬ s = -9) : ¬ InB k f cv s (-9) := by
  rintro ⟨m, _, h2, _⟩
  rw [itr_9 h] at h2
  exact ht h2.symm
/-- the first that stops, as far as it is looked for -/
noncomputable def ShB (f : Int → Int) (st : Int → Prop) : Nat → Int → Int
  | 0, _ => -9
  | k + 1, x => iV (x = -9) (-9) (iV (st x) x (ShB f st k (f x)))
theorem ShB_9 {f : Int → Int} {st : Int → Prop} {k : Nat} : ShB f st k (-9) = -9 := by
  cases k with
  | zero => rfl
  | succ k => show iV _ _ _ = _; exact iV_y rfl
theorem ShB_y {f : Int → Int} {st : Int → Prop} {k : Nat} {x : Int} (h : ¬ x = -9) (hs : st x) : ShB f st (k + 1) x = x := by
  show iV _ _ (iV _ _ _) = _
  rw [iV_n h, iV_y hs]
theorem ShB_n {f : Int → Int} {st : Int → Prop} {k : Nat} {x : Int} (h : ¬ x = -9) (hs : ¬ st x) : ShB f st (k + 1) x = ShB f st k (f x) := by
  show iV _ _ (iV _ _ _) = _
  rw [iV_n h, iV_n hs]
/-! told with a loop's number -/
theorem ChB_e {f : Int → Int} {y z t : Int} {x : Int32} (hx : x.toInt = 0) (e : y = z) : ChB 30 f y t ↔ ChB (30 - x.toInt.toNat) f z t := by rw [show 30 - x.toInt.toNat = 30 by omega, e]
theorem ChB_s {P : Prop} {f : Int → Int} {o o2 t : Int} {x y : Int32} (h : P ↔ ChB (30 - x.toInt.toNat) f o t) (h0 : 0 ≤ x.toInt ∧ x.toInt < 30) (hy : y.toInt = x.toInt + 1) (hn : ¬ o = t) (hf : f o = o2) : P ↔ ChB (30 - y.toInt.toNat) f o2 t := h.trans (by rw [show 30 - x.toInt.toNat = (30 - y.toInt.toNat) + 1 by omega, ChB_n hn, hf])
theorem ChB_y {P : Prop} {f : Int → Int} {o t : Int} {x : Int32} (h : P ↔ ChB (30 - x.toInt.toNat) f o t) (h0 : 0 ≤ x.toInt ∧ x.toInt < 30) (e : o = t) : P := h.mpr (by rw [show 30 - x.toInt.toNat = (29 - x.toInt.toNat) + 1 by omega]; exact ChB_h e)
theorem ChB_x {P : Prop} {f : Int → Int} {o t : Int} {x : Int32} (h : P ↔ ChB (30 - x.toInt.toNat) f o t) (hx : 30 ≤ x.toInt ∨ o = -9) (hf : f (-9) = -9) (ht : ¬ t = -9) : ¬ P := by
  intro p
  have q := h.mp p
  rcases hx with hx | hx
  · rw [show 30 - x.toInt.toNat = 0 by omega] at q
    exact ChB_0 q
  · rw [hx] at q
    exact ChB_9 hf ht q
theorem ShB_e {f : Int → Int} {st : Int → Prop} {y z : Int} {x : Int32} (hx : x.toInt = 0) (e : y = z) : ShB f st 30 y = ShB f st (30 - x.toInt.toNat) z := by rw [show 30 - x.toInt.toNat = 30 by omega, e]
theorem ShB_s {f : Int → Int} {st : Int → Prop} {v o o2 : Int} {x y : Int32} (h : v = ShB f st (30 - x.toInt.toNat) o) (h0 : 0 ≤ x.toInt ∧ x.toInt < 30) (hy : y.toInt = x.toInt + 1) (h9 : ¬ o = -9) (hs : ¬ st o) (hf : f o = o2) : v = ShB f st (30 - y.toInt.toNat) o2 := h.trans (by rw [show 30 - x.toInt.toNat = (30 - y.toInt.toNat) + 1 by omega, ShB_n h9 hs, hf])
theorem ShB_r {f : Int → Int} {st : Int → Prop} {v o : Int} {x : Int32} (h : v = ShB f st (30 - x.toInt.toNat) o) (h0 : 0 ≤ x.toInt ∧ x.toInt < 30) (h9 : ¬ o = -9) (hs : st o) : o = v := by rw [h, show 30 - x.toInt.toNat = (29 - x.toInt.toNat) + 1 by omega, ShB_y h9 hs]
theorem ShB_z {f : Int → Int} {st : Int → Prop} {v o : Int} {x : Int32} (h : v = ShB f st (30 - x.toInt.toNat) o) (hx : 30 ≤ x.toInt ∨ o = -9) : -9 = v := by
  rw [h]
  rcases hx with hx | hx
  · rw [show 30 - x.toInt.toNat = 0 by omega]; rfl
  · rw [hx, ShB_9]
theorem InB_e {f : Int → Int} {cv : Int → Prop} {s y z : Int} {x : Int32} (hx : x.toInt = 0) (e : y = z) : InB 30 f cv s y ↔ InB (30 - x.toInt.toNat) f cv s z := by rw [show 30 - x.toInt.toNat = 30 by omega, e]
theorem InB_s {P : Prop} {f : Int → Int} {cv : Int → Prop} {s o o2 : Int} {x y : Int32} (h : P ↔ InB (30 - x.toInt.toNat) f cv s o) (h0 : 0 ≤ x.toInt ∧ x.toInt < 30) (hy : y.toInt = x.toInt + 1) (hn : ¬ o = s) (hc : ¬ cv o) (hf : f o = o2) : P ↔ InB (30 - y.toInt.toNat) f cv s o2 := h.trans (by rw [show 30 - x.toInt.toNat = (30 - y.toInt.toNat) + 1 by omega, InB_n hn hc, hf])
theorem InB_y {P : Prop} {f : Int → Int} {cv : Int → Prop} {s o : Int} {x : Int32} (h : P ↔ InB (30 - x.toInt.toNat) f cv s o) (h0 : 0 ≤ x.toInt ∧ x.toInt < 30) (e : o = s) : P := h.mpr (by rw [show 30 - x.toInt.toNat = (29 - x.toInt.toNat) + 1 by omega]; exact InB_h e)
theorem InB_x {P : Prop} {f : Int → Int} {cv : Int → Prop} {s o : Int} {x : Int32} (h : P ↔ InB (30 - x.toInt.toNat) f cv s o) (hx : 30 ≤ x.toInt ∨ o = -9 ∨ (¬ o = s ∧ cv o)) (hf : f (-9) = -9) (ht : ¬ s = -9) : ¬ P := by
  intro p
  have q := h.mp p
  rcases hx with hx | hx | hx
  · rw [show 30 - x.toInt.toNat = 0 by omega] at q
    exact InB_0 q
  · rw [hx] at q
    exact InB_9 hf ht q
  · exact InB_c hx.1 hx.2 q
/-- a bit of a cell -/
def bT (ce : Nat → Int32) (k x : Int) : Prop := hb (ce x.toNat) k
def sD (f1 f2 : Nat → Int32) (s o : Int) : Prop := (f1 o.toNat).toInt = s ∨ (f2 o.toNat).toInt = s
/-! what is seen -/
def Cv (Z : Int → Int) (op gl : Int → Prop) (l : Prop) (x : Int) : Prop := Z x = 3 ∧ ¬ op x ∧ (l ∨ ¬ gl x)
def StpC (Z : Int → Int) (op gl : Int → Prop) (l : Prop) (x : Int) : Prop := Z x = 0 ∨ Cv Z op gl l x
noncomputable def shl (Z f : Int → Int) (op gl : Int → Prop) (l : Prop) (p : Int) : Int := ShB f (StpC Z op gl l) 30 (f p)
def Vw (Z f : Int → Int) (op gl : Int → Prop) (sd : Int → Int → Prop) (l : Prop) (s o : Int) : Prop := ¬ s = -9 ∧ ((o = s ∧ Z s = 3) ∨ (¬ o = s ∧ Z o = 2 ∧ sd s o) ∨ (¬ o = s ∧ ¬ Z o = 2 ∧ InB 30 f (Cv Z op gl l) s (f o)))
/-- he himself, and what is in view of the shell -/
def V1 (Z f : Int → Int) (op gl : Int → Prop) (sd : Int → Int → Prop) (l : Prop) (p o : Int) : Prop := o = p ∨ Vw Z f op gl sd l (shl Z f op gl l p) o
def BrM (Z f : Int → Int) (op gl lt : Int → Prop) (sd : Int → Int → Prop) (p m : Int) : Prop := (Z (shl Z f op gl ((1 : Int) ≤ 0) p) = 0 ∧ lt (shl Z f op gl ((1 : Int) ≤ 0) p)) ∨ ∃ o : Int, 0 ≤ o ∧ o < m ∧ V1 Z f op gl sd ((1 : Int) ≤ 0) p o ∧ lt o
def Own (f fm : Int → Int) (p o : Int) : Prop := f o = p ∧ (fm o = 2 ∨ fm o = 3)
def SnP (Z f fm : Int → Int) (op gl lt : Int → Prop) (sd : Int → Int → Prop) (p N o : Int) : Prop := Own f fm p o ∨ (BrM Z f op gl lt sd p N ∧ V1 Z f op gl sd ((1 : Int) ≤ 0) p o)
def RcP (Z f fm : Int → Int) (op gl lt : Int → Prop) (sd : Int → Int → Prop) (p N o : Int) : Prop := SnP Z f fm op gl lt sd p N o ∧ V1 Z f op gl sd ((1 : Int) ≤ 1) p o
def LkR (Z f fm : Int → Int) (op gl lt : Int → Prop) (sd : Int → Int → Prop) (p N : Int) (sn rc : Nat → Int32) (br : Int32) : Prop := Sm br (BrM Z f op gl lt sd p N) ∧ ∀ o : Nat, (o : Int) < N → Sm (sn o) (SnP Z f fm op gl lt sd p N o) ∧ Sm (rc o) (RcP Z f fm op gl lt sd p N o)
/-- the form of a place -/
def fX (ce : Nat → Int32) (x : Int) : Int := if 0 ≤ x ∧ x ≤ 29 ∧ ¬ (ce x.toNat).toInt % 256 = 255 then (ce x.toNat).toInt % 8 else -9
theorem fX_at {ce : Nat → Int32} {x r : Int32} (hx : 0 ≤ x.toInt ∧ x.toInt ≤ 29) (h : (r.toInt = -9 ∧ (ce x.toNatClampNeg).toInt % 256 = 255) ∨ (0 ≤ r.toInt ∧ r.toInt ≤ 4 ∧ ¬ (ce x.toNatClampNeg).toInt % 256 = 255 ∧ r.toInt = (ce x.toNatClampNeg).toInt % 8)) : fX ce x.toInt = r.toInt := by
  have e : x.toNatClampNeg = x.toInt.toNat := rfl
  rw [e] at h
  unfold fX
  rcases h with h | h
  · rw [if_neg (by omega)]; omega
  · rw [if_pos (by omega)]; omega
/-- something lies so -/
def lsP (ce : Nat → Int32) (f h : Int) (o : Nat) : Bool := decide ((ce o).toInt % 256 = h * 8 + f)
theorem lsP_y {ce : Nat → Int32} {f h : Int} {o : Nat} (e : (ce o).toInt % 256 = h * 8 + f) : lsP ce f h o = true := decide_eq_true (p := (ce o).toInt % 256 = h * 8 + f) e
theorem lsP_e {ce : Nat → Int32} {f h : Int} {o : Nat} (e : lsP ce f h o = true) : (ce o).toInt % 256 = h * 8 + f := of_decide_eq_true (p := (ce o).toInt % 256 = h * 8 + f) e
theorem cn_y {P : Nat → Bool} {x y k k2 : Int32} (h : k.toInt = ((cnt P x.toInt.toNat : Nat) : Int)) (h0 : 0 ≤ x.toInt) (hp : P x.toNatClampNeg = true) (hk : k2.toInt = k.toInt + 1) (hy : y.toInt = x.toInt + 1) : k2.toInt = ((cnt P y.toInt.toNat : Nat) : Int) := by
  rw [show y.toInt.toNat = x.toInt.toNat + 1 by omega]
  show k2.toInt = ((cnt P x.toInt.toNat + (if P x.toInt.toNat = true then 1 else 0) : Nat) : Int)
  rw [if_pos (show P x.toInt.toNat = true from hp)]; omega
theorem cn_n {P : Nat → Bool} {x y k : Int32} (h : k.toInt = ((cnt P x.toInt.toNat : Nat) : Int)) (h0 : 0 ≤ x.toInt) (hp : ¬ P x.toNatClampNeg = true) (hy : y.toInt = x.toInt + 1) : k.toInt = ((cnt P y.toInt.toNat : Nat) : Int) := by
  rw [show y.toInt.toNat = x.toInt.toNat + 1 by omega]
  show k.toInt = ((cnt P x.toInt.toNat + (if P x.toInt.toNat = true then 1 else 0) : Nat) : Int)
  rw [if_neg (show ¬ P x.toInt.toNat = true from hp)]; omega
/-! looking around: the two rows as they are filled -/
def LkA (V : Int → Prop) (sn : Nat → Int32) (m : Int) : Prop := ∀ o : Nat, (o : Int) < m → Sm (sn o) (V o)
theorem LkA_0 {V : Int → Prop} {sn : Nat → Int32} {x : Int32} (h : x.toInt = 0) : LkA V sn x.toInt := fun o ho => by omega
theorem LkA_s {V : Int → Prop} {sn : Nat → Int32} {x y z : Int32} (h : LkA V sn x.toInt) (h0 : 0 ≤ x.toInt) (hy : y.toInt = x.toInt + 1) (hz : Sm z (V x.toInt)) : LkA V (upd sn x.toNatClampNeg z) y.toInt := by
  intro o ho
  by_cases e : o = x.toNatClampNeg
  · rw [e, pk_us, cl_nn h0]; exact hz
  · rw [pk_un e]
    have q : x.toNatClampNeg = x.toInt.toNat := rfl
    exact h o (by omega)
def LkB (V S R : Int → Prop) (sn rc : Nat → Int32) (m N : Int) : Prop := ∀ o : Nat, (o : Int) < N → ((o : Int) < m → Sm (sn o) (S o) ∧ Sm (rc o) (R o)) ∧ (¬ (o : Int) < m → Sm (sn o) (V o))
theorem LkB_0 {V S R : Int → Prop} {sn rc : Nat → Int32} {x : Int32} {N : Int} (hx : x.toInt = 0) (h : LkA V sn N) : LkB V S R sn rc x.toInt N := fun o ho => ⟨fun q => by omega, fun _ => h o ho⟩
theorem LkB_s {V S R : Int → Prop} {sn rc : Nat → Int32} {x y z w : Int32} {N : Int} (h : LkB V S R sn rc x.toInt N) (h0 : 0 ≤ x.toInt) (hy : y.toInt = x.toInt + 1) (hz : Sm z (S x.toInt)) (hw : Sm w (R x.toInt)) : LkB V S R (upd sn x.toNatClampNeg z) (upd rc x.toNatClampNeg w) y.toInt N := by
  intro o ho
  have q : x.toNatClampNeg = x.toInt.toNat := rfl
  by_cases e : o = x.toNatClampNeg
  · rw [e, pk_us, pk_us, cl_nn h0]
    exact ⟨fun _ => ⟨hz, hw⟩, fun p => absurd p (by omega)⟩
  · rw [pk_un e, pk_un e]
    obtain ⟨a, b⟩ := h o ho
    exact ⟨fun p => a (by omega), fun p => b (by omega)⟩
theorem BrM_s {Z f : Int → Int} {op gl lt : Int → Prop} {sd : Int → Int → Prop} {p m : Int} {b b2 : Int32} (h : Sm b (BrM Z f op gl lt sd p m)) (hm : 0 ≤ m) (h2 : Sm b2 (b.toInt = 1 ∨ (V1 Z f op gl sd ((1 : Int) ≤ 0) p m ∧ lt m))) : Sm b2 (BrM Z f op gl lt sd p (m + 1)) := by
  have e : (b.toInt = 1 ∨ (V1 Z f op gl sd ((1 : Int) ≤ 0) p m ∧ lt m)) ↔ BrM Z f op gl lt sd p (m + 1) := by
    constructor
    · intro q
      rcases q with q | q
      · rcases h with h | h
        · rcases h.2 with w | ⟨o, o1, o2, o3⟩
          · exact Or.inl w
          · exact Or.inr ⟨o, o1, by omega, o3⟩
        · exfalso; omega
      · exact Or.inr ⟨m, hm, by omega, q⟩
    · intro q
      rcases q with q | ⟨o, o1, o2, o3⟩
      · rcases h with h | h
        · exact Or.inl h.1
        · exact absurd (Or.inl q) h.2
      · by_cases w : o = m
        · rw [w] at o3; exact Or.inr o3
        · rcases h with h | h
          · exact Or.inl h.1
          · exact absurd (Or.inr ⟨o, o1, by omega, o3⟩) h.2
  rcases h2 with h2 | h2
  · exact Or.inl ⟨h2.1, e.mp h2.2⟩
  · exact Or.inr ⟨h2.1, fun q => h2.2 (e.mpr q)⟩
theorem LkA_m {V : Int → Prop} {sn : Nat → Int32} {m N : Int} (h : LkA V sn m) (hl : N ≤ m) : LkA V sn N := fun o ho => h o (by omega)
theorem BrM_0 {Z f : Int → Int} {op gl lt : Int → Prop} {sd : Int → Int → Prop} {p : Int} {b x : Int32} (hx : x.toInt = 0) (h : Sm b (Z (shl Z f op gl ((1 : Int) ≤ 0) p) = 0 ∧ lt (shl Z f op gl ((1 : Int) ≤ 0) p))) : Sm b (BrM Z f op gl lt sd p x.toInt) := by
  rcases h with h | h
  · exact Or.inl ⟨h.1, Or.inl h.2⟩
  · refine Or.inr ⟨h.1, fun q => ?_⟩
    rcases q with q | ⟨o, o1, o2, _⟩
    · exact h.2 q
    · omega
/-- by whom something is held, worn -/
theorem hd_e {ce : Nat → Int32} {x p k : Int} (hx : 0 ≤ x ∧ x ≤ 29) (hp : 0 ≤ p ∧ p ≤ 29) (hk : 0 ≤ k ∧ k ≤ 4) : (ce x.toNat).toInt % 256 = p * 8 + k ↔ (hF ce x = p ∧ fX ce x = k) := by
  unfold hF fX
  by_cases q : (ce x.toNat).toInt % 256 = 255
  · rw [if_neg (fun w => w.2.2 q), if_neg (fun w => w.2.2 q)]
    omega
  · rw [if_pos ⟨hx.1, hx.2, q⟩, if_pos ⟨hx.1, hx.2, q⟩]
    omega
theorem Own_e {ce : Nat → Int32} {x p : Int} (hx : 0 ≤ x ∧ x ≤ 29) (hp : 0 ≤ p ∧ p ≤ 29) : Own (hF ce) (fX ce) p x ↔ ((ce x.toNat).toInt % 256 = p * 8 + 2 ∨ (ce x.toNat).toInt % 256 = p * 8 + 3) := by
  rw [hd_e hx hp (k := 2) (by omega), hd_e hx hp (k := 3) (by omega)]
  unfold Own
  constructor
  · rintro ⟨a, b | b⟩
    · exact Or.inl ⟨a, b⟩
    · exact Or.inr ⟨a, b⟩
  · rintro (⟨a, b⟩ | ⟨a, b⟩)
    · exact ⟨a, Or.inl b⟩
    · exact ⟨a, Or.inr b⟩
/-! reasons -/
def Hd (f fm : Int → Int) (p x : Int) : Prop := f x = p ∧ fm x = 2
def ByR (Z f fm : Int → Int) (p : Int) : Prop := fm p = 0 ∧ Z (f p) = 0
noncomputable def goV (bw : Prop) (ld dr : Int) (op : Int → Prop) : Int := iV (¬ bw) 1 (iV (ld = -9) 2 (iV (¬ dr = -9 ∧ ¬ op dr) 3 0))
noncomputable def takeV (sn up hd bad rc an ov : Prop) : Int := iV (¬ sn) 4 (iV up 5 (iV hd 6 (iV bad 7 (iV (¬ rc) 8 (iV an 9 (iV ov 10 0))))))
noncomputable def putV (sn fit slf cl rc ful : Prop) : Int := iV (¬ sn) 4 (iV (¬ fit) 12 (iV slf 13 (iV cl 3 (iV (¬ rc) 8 (iV ful 14 0)))))
noncomputable def leafV (v : Int) (op lk : Prop) (k : Int) : Int := if v = 5 then iV op 15 (iV lk 16 k) else if v = 6 then iV (¬ op) 3 k else if v = 7 then iV (¬ lk) 17 k else iV lk 16 (iV op 15 k)
noncomputable def shutV (v : Int) (sn sh op lk rc : Prop) (k : Int) : Int := iV (¬ sn) 4 (iV (¬ sh) 12 (leafV v op lk (iV (¬ rc) 8 k)))
noncomputable def keyV (hd ky : Prop) : Int := iV (¬ hd) 11 (iV (¬ ky) 18 0)
noncomputable def wearV (hd gm : Prop) : Int := iV (¬ hd) 11 (iV (¬ gm) 19 0)
noncomputable def enterV (sn fit up cl rc at_ : Prop) : Int := iV (¬ sn) 4 (iV (¬ fit) 12 (iV up 13 (iV cl 3 (iV (¬ rc) 8 (iV at_ 20 0)))))
noncomputable def leaveV (bw cl fo : Prop) : Int := iV bw 1 (iV cl 3 (iV (¬ fo) 21 0))
/-- another person on the way up -/
def AnB (Z f : Int → Int) (p : Int) (k : Nat) (x : Int) : Prop := ∃ m : Nat, m < k ∧ ¬ itr f m x = p ∧ Z (itr f m x) = 5 ∧ ∀ j : Nat, j ≤ m → ¬ itr f j x = -9
theorem AnB_e {Z f : Int → Int} {p y z : Int} {x : Int32} (hx : x.toInt = 0) (e : y = z) : AnB Z f p 30 y ↔ AnB Z f p (30 - x.toInt.toNat) z := by rw [show 30 - x.toInt.toNat = 30 by omega, e]
theorem AnB_n {Z f : Int → Int} {p x : Int} {k : Nat} (h9 : ¬ x = -9) (hn : ¬ (¬ x = p ∧ Z x = 5)) : AnB Z f p (k + 1) x ↔ AnB Z f p k (f x) := by
  constructor
  · rintro ⟨m, h1, h2, h3, h4⟩
    cases m with
    | zero => exact absurd ⟨h2, h3⟩ hn
    | succ m => exact ⟨m, by omega, by rw [← itr_s]; exact h2, by rw [← itr_s]; exact h3, fun j hj => by rw [← itr_s]; exact h4 (j + 1) (by omega)⟩
  · rintro ⟨m, h1, h2, h3, h4⟩
    refine ⟨m + 1, by omega, by rw [itr_s]; exact h2, by rw [itr_s]; exact h3, fun j hj => ?_⟩
    cases j with
    | zero => exact h9
    | succ j => rw [itr_s]; exact h4 j (by omega)
theorem AnB_s {P : Prop} {Z f : Int → Int} {p o o2 : Int} {x y : Int32} (h : P ↔ AnB Z f p (30 - x.toInt.toNat) o) (h0 : 0 ≤ x.toInt ∧ x.toInt < 30) (hy : y.toInt = x.toInt + 1) (h9 : ¬ o = -9) (hn : ¬ (¬ o = p ∧ Z o = 5)) (hf : f o = o2) : P ↔ AnB Z f p (30 - y.toInt.toNat) o2 := h.trans (by rw [show 30 - x.toInt.toNat = (30 - y.toInt.toNat) + 1 by omega, AnB_n h9 hn, hf])
theorem AnB_y {P : Prop} {Z f : Int → Int} {p o : Int} {x : Int32} (h : P ↔ AnB Z f p (30 - x.toInt.toNat) o) (h0 : 0 ≤ x.toInt ∧ x.toInt < 30) (h9 : ¬ o = -9) (hn : ¬ o = p ∧ Z o = 5) : P := h.mpr ⟨0, by omega, hn.1, hn.2, fun j hj => by rw [show j = 0 by omega]; exact h9⟩
theorem AnB_x {P : Prop} {Z f : Int → Int} {p o : Int} {x : Int32} (h : P ↔ AnB Z f p (30 - x.toInt.toNat) o) (hx : 30 ≤ x.toInt ∨ o = -9) : ¬ P := by
  intro q
  obtain ⟨m, h1, _, _, h4⟩ := h.mp q
  rcases hx with hx | hx
  · omega
  · exact h4 0 (by omega) hx
theorem sm_nz {r : Int32} {P : Prop} (h : Sm r P) : (¬ r.toInt = 0) ↔ P := by
  rcases h with h | h
  · exact ⟨fun _ => h.2, fun _ => by omega⟩
  · exact ⟨fun q => absurd h.1 q, fun q => absurd q h.2⟩
theorem leafV_k {v : Int} {op lk : Prop} {k : Int} : (leafV v op lk 0 = 0 ∧ leafV v op lk k = k) ∨ (¬ leafV v op lk 0 = 0 ∧ leafV v op lk k = leafV v op lk 0) := by
  unfold leafV
  by_cases q5 : v = 5
  · simp only [if_pos q5]
    by_cases a : op
    · simp only [iV_y a]; first | exact Or.inr ⟨by decide, rfl⟩ | exact Or.inl ⟨rfl, rfl⟩ | exact Or.inr ⟨by decide, trivial⟩ | exact Or.inl ⟨trivial, trivial⟩ | simp
    · simp only [iV_n a]
      by_cases b : lk
      · simp only [iV_y b]; first | exact Or.inr ⟨by decide, rfl⟩ | exact Or.inl ⟨rfl, rfl⟩ | exact Or.inr ⟨by decide, trivial⟩ | exact Or.inl ⟨trivial, trivial⟩ | simp
      · simp only [iV_n b]; first | exact Or.inr ⟨by decide, rfl⟩ | exact Or.inl ⟨rfl, rfl⟩ | exact Or.inr ⟨by decide, trivial⟩ | exact Or.inl ⟨trivial, trivial⟩ | simp
  · simp only [if_neg q5]
    by_cases q6 : v = 6
    · simp only [if_pos q6]
      by_cases a : ¬ op
      · simp only [iV_y a]; first | exact Or.inr ⟨by decide, rfl⟩ | exact Or.inl ⟨rfl, rfl⟩ | exact Or.inr ⟨by decide, trivial⟩ | exact Or.inl ⟨trivial, trivial⟩ | simp
      · simp only [iV_n a]; first | exact Or.inr ⟨by decide, rfl⟩ | exact Or.inl ⟨rfl, rfl⟩ | exact Or.inr ⟨by decide, trivial⟩ | exact Or.inl ⟨trivial, trivial⟩ | simp
    · simp only [if_neg q6]
      by_cases q7 : v = 7
      · simp only [if_pos q7]
        by_cases a : ¬ lk
        · simp only [iV_y a]; first | exact Or.inr ⟨by decide, rfl⟩ | exact Or.inl ⟨rfl, rfl⟩ | exact Or.inr ⟨by decide, trivial⟩ | exact Or.inl ⟨trivial, trivial⟩ | simp
        · simp only [iV_n a]; first | exact Or.inr ⟨by decide, rfl⟩ | exact Or.inl ⟨rfl, rfl⟩ | exact Or.inr ⟨by decide, trivial⟩ | exact Or.inl ⟨trivial, trivial⟩ | simp
      · simp only [if_neg q7]
        by_cases b : lk
        · simp only [iV_y b]; first | exact Or.inr ⟨by decide, rfl⟩ | exact Or.inl ⟨rfl, rfl⟩ | exact Or.inr ⟨by decide, trivial⟩ | exact Or.inl ⟨trivial, trivial⟩ | simp
        · simp only [iV_n b]
          by_cases a : op
          · simp only [iV_y a]; first | exact Or.inr ⟨by decide, rfl⟩ | exact Or.inl ⟨rfl, rfl⟩ | exact Or.inr ⟨by decide, trivial⟩ | exact Or.inl ⟨trivial, trivial⟩ | simp
          · simp only [iV_n a]; first | exact Or.inr ⟨by decide, rfl⟩ | exact Or.inl ⟨rfl, rfl⟩ | exact Or.inr ⟨by decide, trivial⟩ | exact Or.inl ⟨trivial, trivial⟩ | simp
theorem leafV_n {v : Int} {op lk : Prop} {k : Int} (h : ¬ leafV v op lk 0 = 0) : leafV v op lk k = leafV v op lk 0 := by
  rcases leafV_k (v := v) (op := op) (lk := lk) (k := k) with w | w
  · exact absurd w.1 h
  · exact w.2
theorem leafV_0 {v : Int} {op lk : Prop} {k : Int} (h : leafV v op lk 0 = 0) : leafV v op lk k = k := by
  rcases leafV_k (v := v) (op := op) (lk := lk) (k := k) with w | w
  · exact w.2
  · exact absurd h w.1
def kyV (kb A : Nat → Int32) (x : Int) : Int := if (kb x.toNat).toInt = -9 then -9 else (A (kb x.toNat).toNatClampNeg).toInt
theorem zX_i {so ko : Nat → Int32} {N x : Int} (h : 0 ≤ x ∧ x < N) : zX so ko N x = (so (ko x.toNat).toNatClampNeg).toInt := if_pos h
/-! bulks, as numbers of 32 bits -/
def sumI (g : Nat → Int32) : Nat → Int32
  | 0 => 0
  | n + 1 => sumI g n + g n
theorem sumI_y {g : Nat → Int32} {x y s s2 r : Int32} (h : s = sumI g x.toInt.toNat) (h0 : 0 ≤ x.toInt) (hy : y.toInt = x.toInt + 1) (hg : g x.toInt.toNat = r) (hs : s2 = s + r) : s2 = sumI g y.toInt.toNat := by
  rw [show y.toInt.toNat = x.toInt.toNat + 1 by omega, hs, h, ← hg]
  rfl
theorem sumI_n {g : Nat → Int32} {x y s : Int32} (h : s = sumI g x.toInt.toNat) (h0 : 0 ≤ x.toInt) (hy : y.toInt = x.toInt + 1) (hg : g x.toInt.toNat = 0) : s = sumI g y.toInt.toNat := by
  rw [show y.toInt.toNat = x.toInt.toNat + 1 by omega, h]
  show sumI g x.toInt.toNat = sumI g x.toInt.toNat + g x.toInt.toNat
  rw [hg]
  exact (Int32.add_zero _).symm
def wtB (Z : Int → Int) (sz : Nat → Int32) (ls : Int → Int → Nat → Bool) (N : Nat) : Nat → Nat → Int32
  | 0, _ => 0
  | k + 1, o => if Z (o : Int) = 3 then sz o + sumI (fun x => if ls 0 (o : Int) x = true then wtB Z sz ls N k x else 0) N else if Z (o : Int) = 4 then sz o + sumI (fun x => if ls 1 (o : Int) x = true then wtB Z sz ls N k x else 0) N else if Z (o : Int) = 2 then (if (sz o).toInt = 0 then -9 else 100 / sz o) else if Z (o : Int) = 5 then 2 * sz o else sz o
theorem wtB_3 {Z : Int → Int} {sz : Nat → Int32} {ls : Int → Int → Nat → Bool} {N k : Nat} {w : Int} (h : Z ((w.toNat : Nat) : Int) = 3) : wtB Z sz ls N (k + 1) w.toNat = sz w.toNat + sumI (fun x => if ls 0 ((w.toNat : Nat) : Int) x = true then wtB Z sz ls N k x else 0) N := if_pos h
theorem wtB_4 {Z : Int → Int} {sz : Nat → Int32} {ls : Int → Int → Nat → Bool} {N k : Nat} {w : Int} (h : Z ((w.toNat : Nat) : Int) = 4) : wtB Z sz ls N (k + 1) w.toNat = sz w.toNat + sumI (fun x => if ls 1 ((w.toNat : Nat) : Int) x = true then wtB Z sz ls N k x else 0) N := by
  show (if _ then _ else _) = _
  rw [if_neg (by omega), if_pos h]
theorem wtB_d0 {Z : Int → Int} {sz : Nat → Int32} {ls : Int → Int → Nat → Bool} {N k : Nat} {w : Int} (h : Z ((w.toNat : Nat) : Int) = 2) (hs : (sz w.toNat).toInt = 0) : wtB Z sz ls N (k + 1) w.toNat = -9 := by
  show (if _ then _ else _) = _
  rw [if_neg (by omega), if_neg (by omega), if_pos h, if_pos hs]
theorem wtB_d {Z : Int → Int} {sz : Nat → Int32} {ls : Int → Int → Nat → Bool} {N k : Nat} {w : Int} (h : Z ((w.toNat : Nat) : Int) = 2) (hs : ¬ (sz w.toNat).toInt = 0) : wtB Z sz ls N (k + 1) w.toNat = 100 / sz w.toNat := by
  show (if _ then _ else _) = _
  rw [if_neg (by omega), if_neg (by omega), if_pos h, if_neg hs]
theorem wtB_5 {Z : Int → Int} {sz : Nat → Int32} {ls : Int → Int → Nat → Bool} {N k : Nat} {w : Int} (h : Z ((w.toNat : Nat) : Int) = 5) : wtB Z sz ls N (k + 1) w.toNat = 2 * sz w.toNat := by
  show (if _ then _ else _) = _
  rw [if_neg (by omega), if_neg (by omega), if_neg (by omega), if_pos h]
theorem wtB_e {Z : Int → Int} {sz : Nat → Int32} {ls : Int → Int → Nat → Bool} {N k : Nat} {w : Int} (h3 : ¬ Z ((w.toNat : Nat) : Int) = 3) (h4 : ¬ Z ((w.toNat : Nat) : Int) = 4) (h2 : ¬ Z ((w.toNat : Nat) : Int) = 2) (h5 : ¬ Z ((w.toNat : Nat) : Int) = 5) : wtB Z sz ls N (k + 1) w.toNat = sz w.toNat := by
  show (if _ then _ else _) = _
  rw [if_neg h3, if_neg h4, if_neg h2, if_neg h5]
/-- all bits of a cell but one are as they were -/
def FlB (c r : Int32) (k : Int) (on : Prop) : Prop := ∀ f : Int, 0 ≤ f → f ≤ 5 → (hb r f ↔ ((f = k ∧ on) ∨ (¬ f = k ∧ hb c f)))
theorem FlB_on {c b r : Int32} {k : Nat} {e : Int} {on : Prop} (hk : k < 6) (eb : b = nI (2 ^ (8 + k))) (er : r = c ||| b) (ek : (k : Int) = e) (ho : on) : FlB c r e on := by
  intro f h0 h5
  rw [fl_on hk eb er ⟨h0, h5⟩, ek]
  constructor
  · intro h
    by_cases q : f = e
    · exact Or.inl ⟨q, ho⟩
    · rcases h with h | h
      · exact absurd h q
      · exact Or.inr ⟨q, h⟩
  · intro h
    rcases h with h | h
    · exact Or.inl h.1
    · exact Or.inr h.2
theorem FlB_off {c b y r : Int32} {k : Nat} {e : Int} {on : Prop} (hk : k < 6) (eb : b = nI (2 ^ (8 + k))) (ey : y = b ^^^ (-1)) (er : r = c &&& y) (ek : (k : Int) = e) (ho : ¬ on) : FlB c r e on := by
  intro f h0 h5
  rw [fl_off hk eb ey er ⟨h0, h5⟩, ek]
  constructor
  · intro h
    exact Or.inr h
  · intro h
    rcases h with h | h
    · exact absurd h.2 ho
    · exact h
def rxV (v go tk hd sh wr en lv : Int) : Int := if v = 0 then go else if v = 1 then tk else if v = 2 ∨ v = 3 ∨ v = 4 then hd else if 5 ≤ v ∧ v ≤ 8 then sh else if v = 9 then wr else if v = 10 then en else if v = 11 then lv else 0
def ryV (v pi po ky : Int) : Int := if v = 3 then pi else if v = 4 then po else if v = 7 ∨ v = 8 then ky else 0
theorem FlB_c {c r : Int32} {k : Int} {on on2 : Prop} (h : FlB c r k on) (e : on ↔ on2) : FlB c r k on2 := by rw [← propext e]; exact h
/-- whose cell an act changes, and what it is then -/
def sbI (v : Int) (p x : Int32) : Int32 := if v = 0 ∨ 10 ≤ v then p else x
theorem sbI_e {v : Int} {p x r : Int32} (h : (r.toInt = p.toInt ∧ (v = 0 ∨ 10 ≤ v)) ∨ (r.toInt = x.toInt ∧ ¬ (v = 0 ∨ 10 ≤ v))) : r = sbI v p x := by
  unfold sbI
  rcases h with h | h
  · rw [if_pos h.2]; exact Int32.toInt_inj.mp h.1
  · rw [if_neg h.2]; exact Int32.toInt_inj.mp h.1
def plF (v : Int) (Z fm f : Int → Int) (p x : Int) : Int := if v = 0 then 0 else if v = 1 then 2 else if v = 2 then fm p else if v = 3 then 0 else if v = 4 then 1 else if v = 9 then 3 else if v = 10 then (if Z x = 3 then 0 else 1) else fm (f p)
def plH (v : Int) (f : Int → Int) (p ld x y : Int) : Int := if v = 0 then ld else if v = 1 ∨ v = 9 then p else if v = 2 then f p else if v = 3 ∨ v = 4 then y else if v = 10 then x else f (f p)
def OuR (v : Int) (c r : Int32) (f h : Int) : Prop := ((v ≤ 4 ∨ (9 ≤ v ∧ v ≤ 11)) ∧ r.toInt = c.toInt / 256 * 256 + h * 8 + f) ∨ ((v = 5 ∨ v = 6) ∧ r.toInt % 256 = c.toInt % 256 ∧ FlB c r 0 (v = 5)) ∨ ((v = 7 ∨ v = 8) ∧ r.toInt % 256 = c.toInt % 256 ∧ FlB c r 1 (v = 8)) ∨ (v = 12 ∧ r = c)
/-! cells as they are said -/
def CeL (bk : Nat → Int32) : Prop := ∀ o : Nat, o < 30 → 0 ≤ (bk o).toInt ∧ (bk o).toInt ≤ 255
def CaB (c : Int32) (Q : Int → Prop) (m : Int) : Prop := ∀ f : Int, 0 ≤ f → f ≤ 5 → (hb c f ↔ (f < m ∧ Q f))
theorem CaB_0 {c x : Int32} {Q : Int → Prop} (hc : 0 ≤ c.toInt ∧ c.toInt ≤ 255) (hx : x.toInt = 0) : CaB c Q x.toInt := fun f h0 h5 => ⟨fun h => absurd h (hb_0 hc ⟨h0, h5⟩), fun h => by have := h.1; omega⟩
theorem CaB_n {c x y : Int32} {Q : Int → Prop} (h : CaB c Q x.toInt) (h0 : 0 ≤ x.toInt) (hy : y.toInt = x.toInt + 1) (hq : ¬ Q x.toInt) : CaB c Q y.toInt := by
  intro f f0 f5
  rw [h f f0 f5]
  constructor
  · intro w
    exact ⟨by omega, w.2⟩
  · intro w
    refine ⟨?_, w.2⟩
    by_cases e : f = x.toInt
    · rw [e] at w; exact absurd w.2 hq
    · omega
theorem CaB_y {c r x y : Int32} {Q : Int → Prop} {on : Prop} (h : CaB c Q x.toInt) (hF : FlB c r x.toInt on) (h0 : 0 ≤ x.toInt) (hy : y.toInt = x.toInt + 1) (e : on ↔ Q x.toInt) : CaB r Q y.toInt := by
  intro f f0 f5
  rw [hF f f0 f5, h f f0 f5]
  constructor
  · intro w
    rcases w with w | w
    · rw [w.1]; exact ⟨by omega, e.mp w.2⟩
    · exact ⟨by omega, w.2.2⟩
  · intro w
    by_cases q : f = x.toInt
    · rw [q] at w; exact Or.inl ⟨q, e.mpr w.2⟩
    · exact Or.inr ⟨q, by omega, w.2⟩
def StC (ce0 ce bk : Nat → Int32) (Q : Int → Int → Prop) (m : Int) : Prop := ∀ o : Nat, ((o : Int) < m → (ce o).toInt % 256 = (bk o).toInt % 256 ∧ CaB (ce o) (Q o) 6) ∧ (¬ (o : Int) < m → ce o = ce0 o)
theorem StC_0 {ce bk : Nat → Int32} {Q : Int → Int → Prop} {x : Int32} (h : x.toInt = 0) : StC ce ce bk Q x.toInt := fun o => ⟨fun q => by omega, fun _ => rfl⟩
theorem StC_s {ce0 ce bk : Nat → Int32} {Q : Int → Int → Prop} {x y r : Int32} (h : StC ce0 ce bk Q x.toInt) (h0 : 0 ≤ x.toInt) (hy : y.toInt = x.toInt + 1) (h1 : r.toInt % 256 = (bk x.toNatClampNeg).toInt % 256) (h2 : CaB r (Q x.toInt) 6) : StC ce0 (upd ce x.toNatClampNeg r) bk Q y.toInt := by
  intro o
  have q : x.toNatClampNeg = x.toInt.toNat := rfl
  by_cases e : o = x.toNatClampNeg
  · rw [e, pk_us, cl_nn h0]
    exact ⟨fun _ => ⟨h1, h2⟩, fun p => absurd p (by omega)⟩
  · rw [pk_un e]
    exact ⟨fun p => (h o).1 (by omega), fun p => (h o).2 (by omega)⟩
theorem StC_m {ce0 ce bk : Nat → Int32} {Q : Int → Int → Prop} {m N : Int} (h : StC ce0 ce bk Q m) (h1 : m ≤ N) (h2 : N ≤ m) : StC ce0 ce bk Q N := by
  rw [show N = m by omega]
  exact h
theorem SgX_f {fb C : Nat → Int32} {o f v r : Int} (h : SgX fb C o f v r) : r = sgX fb C o f v := by
  unfold sgX
  rcases h with h | h
  · rw [if_pos h.1]; exact h.2
  · rw [if_neg h.1]; exact h.2
def plV (rx ry : Int) : Int := if rx = 0 then ry else rx
def IsA (v x y N : Int) : Prop := 0 ≤ v ∧ v ≤ 12 ∧ (v = 0 → 0 ≤ x ∧ x ≤ 9) ∧ (1 ≤ v ∧ v ≤ 10 → 0 ≤ x ∧ x < N) ∧ (v = 3 ∨ v = 4 ∨ v = 7 ∨ v = 8 → 0 ≤ y ∧ y < N)
def AaR (Q : Prop) (tu th why r : Int) : Prop := (¬ Q ∧ r = -1) ∨ (Q ∧ 100 ≤ tu ∧ r = -2) ∨ (Q ∧ tu ≤ 99 ∧ ¬ th = 1 ∧ r = -5) ∨ (Q ∧ tu ≤ 99 ∧ th = 1 ∧ r = why)
def AsR (X Y S : Prop) : Prop := (¬ X ∧ S) ∨ (X ∧ Y)
theorem sm_fp {r : Int32} {P Q : Prop} [Decidable P] (h : r = if P then 1 else 0) (e : P ↔ Q) : Sm r Q := by
  by_cases q : P
  · rw [if_pos q] at h; rw [h]; exact sm_1 (e.mp q)
  · rw [if_neg q] at h; rw [h]; exact sm_0 (fun w => q (e.mpr w))
