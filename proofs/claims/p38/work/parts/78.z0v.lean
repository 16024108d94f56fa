/-! walks: room after room, exit after exit -/
def sgX (fb C : Nat → Int32) (o f v : Int) : Int := if (fb (o * 6 + f).toNat).toInt = -9 then v else (C (fb (o * 6 + f).toNat).toNatClampNeg).toInt
theorem sgX_i {fb C : Nat → Int32} {o f v : Int} : SgX fb C o f v (sgX fb C o f v) := by
  unfold sgX
  by_cases q : (fb (o * 6 + f).toNat).toInt = -9
  · rw [if_pos q]; exact Or.inl ⟨q, rfl⟩
  · rw [if_neg q]; exact Or.inr ⟨q, rfl⟩
noncomputable def sgM (F A B C S : Nat → Int32) (n o f v : Int) : Int := if ¬ fsF (sE F A B C S 6 o f 1) n.toNat = -9 then 1 else if ¬ fsF (sE F A B C S 6 o f 0) n.toNat = -9 then 0 else v
theorem sgM_e {F A B C S : Nat → Int32} {n o f v r : Int} (h : SgM F A B C S n o f v r) : r = sgM F A B C S n o f v := by
  unfold sgM
  rcases h with ⟨a, b⟩ | ⟨a, b, d⟩ | ⟨a, b, d⟩
  · rw [if_pos a]; exact b
  · rw [if_neg (fun q => q a), if_pos b]; exact d
  · rw [if_neg (fun q => q a), if_neg (fun q => q b)]; exact d
theorem sgM_i {F A B C S : Nat → Int32} {n o f v : Int} : SgM F A B C S n o f v (sgM F A B C S n o f v) := by
  unfold sgM
  by_cases q : fsF (sE F A B C S 6 o f 1) n.toNat = -9
  · rw [if_neg (fun z => z q)]
    by_cases w : fsF (sE F A B C S 6 o f 0) n.toNat = -9
    · rw [if_neg (fun z => z w)]; exact Or.inr (Or.inr ⟨q, w, rfl⟩)
    · rw [if_pos w]; exact Or.inr (Or.inl ⟨q, w, rfl⟩)
  · rw [if_pos q]; exact Or.inl ⟨q, rfl⟩
/-! a cell's bits -/
def hbt (c : Int32) (f : Int) : Prop := bq c (8 + f.toNat) = true
theorem lies_c {h f b x : Int32} (hh : 0 ≤ h.toInt ∧ h.toInt ≤ 31) (hf : 0 ≤ f.toInt ∧ f.toInt ≤ 7) (eb : b = h <<< (3 &&& 31)) (ex : x = b ||| f) : x.toInt = h.toInt * 8 + f.toInt := by
  have e2 : h <<< ((3 : Int32) &&& 31) = nI (2 ^ 3 * h.toInt.toNat) := by
    conv => lhs; rw [x_n hh.1]
    exact shl_n (j := 3) (by omega)
  have e5 : 2 ^ 3 * h.toInt.toNat ||| f.toInt.toNat = 2 ^ 3 * h.toInt.toNat + f.toInt.toNat := (Nat.two_pow_add_eq_or_of_lt (by omega) _).symm
  rw [ex, eb, e2]
  conv => lhs; rw [x_n hf.1]
  rw [or_n, e5, nI_toInt (by omega)]
  omega
theorem bq_x {c : Int32} {i : Nat} (hc : 0 ≤ c.toInt) (hi : i < 32) : bq c i = c.toInt.toNat.testBit i := by
  conv => lhs; rw [x_n hc]
  rw [bq_n, decide_eq_true hi, Bool.true_and]
theorem has_b {c f x s r : Int32} (hc : 0 ≤ c.toInt) (hf : 0 ≤ f.toInt ∧ f.toInt ≤ 5) (ex : x.toInt = 8 + f.toInt) (es : s = c >>> (x &&& 31)) (er : r = s &&& 1) : (r.toInt = 1 ∧ hbt c f.toInt) ∨ (r.toInt = 0 ∧ ¬ hbt c f.toInt) := by
  have q := Int32.toInt_lt c
  have ej : x = nI (8 + f.toInt.toNat) := by
    have z := x_n (x := x) (by omega)
    rw [show x.toInt.toNat = 8 + f.toInt.toNat by omega] at z
    exact z
  have le : c.toInt.toNat / 2 ^ (8 + f.toInt.toNat) ≤ c.toInt.toNat := Nat.div_le_self _ _
  have e1 : s = nI (c.toInt.toNat / 2 ^ (8 + f.toInt.toNat)) := by
    rw [es, ej]
    conv => lhs; rw [x_n hc]
    exact shr_n (by omega) (by omega)
  have e2 : s.toInt = ((c.toInt.toNat / 2 ^ (8 + f.toInt.toNat) : Nat) : Int) := by rw [e1, nI_toInt (by omega)]
  have e3 := and_m (x := s) (m := 1) (r := r) 1 (by rw [e2]; exact Int.natCast_nonneg _) er (by decide +kernel) (by omega)
  unfold hbt
  rw [bq_x hc (by omega), Nat.testBit_eq_decide_div_mod_eq, decide_eq_true_eq]
  rw [e2] at e3
  generalize c.toInt.toNat / 2 ^ (8 + f.toInt.toNat) = m at e3 ⊢
  omega
theorem fl_on {c b r : Int32} {k : Nat} (hk : k < 6) (eb : b = nI (2 ^ (8 + k))) (er : r = c ||| b) {f : Int} (hf : 0 ≤ f ∧ f ≤ 5) : hbt r f ↔ (f = (k : Int) ∨ hbt c f) := by
  unfold hbt
  rw [er, bq_or, eb, bq_n, Nat.testBit_two_pow, decide_eq_true (show 8 + f.toNat < 32 by omega), Bool.true_and, Bool.or_eq_true, decide_eq_true_eq]
  constructor
  · intro h
    rcases h with h | h
    · exact Or.inr h
    · exact Or.inl (by omega)
  · intro h
    rcases h with h | h
    · exact Or.inr (by omega)
    · exact Or.inl h
theorem fl_off {c b y r : Int32} {k : Nat} (hk : k < 6) (eb : b = nI (2 ^ (8 + k))) (ey : y = b ^^^ (-1)) (er : r = c &&& y) {f : Int} (hf : 0 ≤ f ∧ f ≤ 5) : hbt r f ↔ (¬ f = (k : Int) ∧ hbt c f) := by
  have hm : ∀ k, k < 6 → ∀ i, i < 6 → bq (nI (2 ^ (8 + k)) ^^^ (-1)) (8 + i) = !decide (i = k) := by decide +kernel
  unfold hbt
  rw [er, bq_and, ey, eb, hm k hk f.toNat (by omega), Bool.and_eq_true]
  constructor
  · intro h
    exact ⟨fun e => absurd (h.2.symm.trans (congrArg Bool.not (decide_eq_true (show f.toNat = k by omega)))) (by decide +kernel), h.1⟩
  · intro h
    exact ⟨h.2, (congrArg Bool.not (decide_eq_false (show ¬ f.toNat = k by omega))).trans rfl⟩
theorem pl_hb {c r : Int32} {e b : Int} (hc : 0 ≤ c.toInt) (he : 0 ≤ e ∧ e ≤ 31) (hb_ : 0 ≤ b ∧ b ≤ 7) (er : r.toInt = c.toInt / 256 * 256 + e * 8 + b) {f : Int} (hf : 0 ≤ f ∧ f ≤ 5) : hbt r f ↔ hbt c f := by
  unfold hbt
  rw [bq_x (c := r) (by omega) (by omega), bq_x hc (by omega), show r.toInt.toNat = 2 ^ 8 * (c.toInt.toNat / 2 ^ 8) + (e * 8 + b).toNat by omega, Nat.testBit_two_pow_mul_add _ (show (e * 8 + b).toNat < 2 ^ 8 by omega), if_neg (by omega), Nat.testBit_div_two_pow, show 8 + f.toNat - 8 + 8 = 8 + f.toNat by omega]
/-- a cell without flags -/
theorem hb_0 {c : Int32} (h : 0 ≤ c.toInt ∧ c.toInt ≤ 255) {f : Int} (hf : 0 ≤ f ∧ f ≤ 5) : ¬ hbt c f := by
  unfold hbt
  rw [bq_x h.1 (by omega), Nat.testBit_lt_two_pow (Nat.lt_of_lt_of_le (show c.toInt.toNat < 2 ^ 8 by omega) (Nat.pow_le_pow_right (by omega) (by omega)))]
  intro w
  cases w
/-! decisions, as numbers -/
noncomputable def iV (P : Prop) (a b : Int) : Int := @ite Int P (Classical.propDecidable P) a b
theorem iV_y {P : Prop} {a b : Int} (h : P) : iV P a b = a := by unfold iV; rw [if_pos h]
theorem iV_n {P : Prop} {a b : Int} (h : ¬ P) : iV P a b = b := by unfold iV; rw [if_neg h]
theorem iV_d {P : Prop} {a b c : Int} (e : ¬ P → b = c) : iV P a b = iV P a c := by
  by_cases h : P
  · rw [iV_y h, iV_y h]
  · rw [iV_n h, iV_n h, e h]
/-! ways up, as far as a class looks -/
def ChB (k : Nat) (f : Int → Int) (x t : Int) : Prop := ∃ m : Nat, m < k ∧ itr f m x = t
theorem ChB_0 {f : Int → Int} {x t : Int} : ¬ ChB 0 f x t := fun ⟨_, h, _⟩ => Nat.not_lt_zero _ h
theorem ChB_h {k : Nat} {f : Int → Int} {x t : Int} (e : x = t) : ChB (k + 1) f x t := ⟨0, by omega, by show x = t; exact e⟩
theorem itr_s {f : Int → Int} {m : Nat} {x : Int} : itr f (m + 1) x = itr f m (f x) := by rw [show m + 1 = 1 + m by omega, itr_add]; rfl
theorem ChB_n {k : Nat} {f : Int → Int} {x t : Int} (e : ¬ x = t) : ChB (k + 1) f x t ↔ ChB k f (f x) t := by
  constructor
  · rintro ⟨m, h1, h2⟩
    cases m with
    | zero => exact absurd h2 e
    | succ m => exact ⟨m, by omega, by rw [← itr_s]; exact h2⟩
  · rintro ⟨m, h1, h2⟩
    exact ⟨m + 1, by omega, by rw [itr_s]; exact h2⟩
theorem itr_9 {f : Int → Int} (h : f (-9) = -9) : ∀ m, itr f m (-9) = -9 := by
  intro m
  induction m with
  | zero => rfl
  | succ m ih => rw [itr_s, h]; exact ih
theorem ChB_9 {k : Nat} {f : Int → Int} {t : Int} (h : f (-9) = -9) (ht : ¬ t = -9) : ¬ ChB k f (-9) t := by
  rintro ⟨m, _, h2⟩
  rw [itr_9 h] at h2
  exact ht h2.symm
/-- in view of s, with covers cv -/
def InB (k : Nat) (f : Int → Int) (cv : Int → Prop) (s x : Int) : Prop := ∃ m : Nat, m < k ∧ itr f m x = s ∧ ∀ j : Nat, j < m → ¬ itr f j x = s ∧ ¬ cv (itr f j x)
theorem InB_0 {f : Int → Int} {cv : Int → Prop} {s x : Int} : ¬ InB 0 f cv s x := fun ⟨_, h, _⟩ => Nat.not_lt_zero _ h
theorem InB_h {k : Nat} {f : Int → Int} {cv : Int → Prop} {s x : Int} (e : x = s) : InB (k + 1) f cv s x := ⟨0, by omega, by show x = s; exact e, fun j hj => absurd hj (Nat.not_lt_zero _)⟩
theorem InB_n {k : Nat} {f : Int → Int} {cv : Int → Prop} {s x : Int} (e : ¬ x = s) (hc : ¬ cv x) : InB (k + 1) f cv s x ↔ InB k f cv s (f x) := by
  constructor
  · rintro ⟨m, h1, h2, h3⟩
    cases m with
    | zero => exact absurd h2 e
    | succ m => exact ⟨m, by omega, by rw [← itr_s]; exact h2, fun j hj => by rw [← itr_s]; exact h3 (j + 1) (by omega)⟩
  · rintro ⟨m, h1, h2, h3⟩
    refine ⟨m + 1, by omega, by rw [itr_s]; exact h2, fun j hj => ?_⟩
    cases j with
    | zero => exact ⟨e, hc⟩
    | succ j => rw [itr_s]; exact h3 j (by omega)
theorem InB_c {k : Nat} {f : Int → Int} {cv : Int → Prop} {s x : Int} (e : ¬ x = s) (hc : cv x) : ¬ InB k f cv s x := by
  rintro ⟨m, h1, h2, h3⟩
  cases m with
  | zero => exact e h2
  | succ m => exact (h3 0 (by omega)).2 hc
theorem InB_9 {k : Nat} {f : Int → Int} {cv : Int → Prop} {s : Int} (h : f (-9) = -9) (ht : ¬ s = -9) : ¬ InB k f cv s (-9) := by
  rintro ⟨m, _, h2, _⟩
  rw [itr_9 h] at h2
  exact ht h2.symm
/-- the first that stops, as far as it is looked for -/
noncomputable def ShB (f : Int → Int) (st : Int → Prop) : Nat → Int → Int
  | 0, _ => -9
  | k + 1, x => iV (x = -9) (-9) (iV (st x) x (ShB f st k (f x)))
theorem ShB_9 {f : Int → Int} {st : Int → Prop} {k : Nat} : ShB f st k (-9) = -9 := by
  cases k with
  | zero => rfl
  | succ k => show iV _ _ _ = _; exact iV_y rfl
theorem ShB_y {f : Int → Int} {st : Int → Prop} {k : Nat} {x : Int} (h : ¬ x = -9) (hs : st x) : ShB f st (k + 1) x = x := by
  show iV _ _ (iV _ _ _) = _
  rw [iV_n h, iV_y hs]
theorem ShB_n {f : Int → Int} {st : Int → Prop} {k : Nat} {x : Int} (h : ¬ x = -9) (hs : ¬ st x) : ShB f st (k + 1) x = ShB f st k (f x) := by
  show iV _ _ (iV _ _ _) = _
  rw [iV_n h, iV_n hs]
/-! told with a loop's number -/
theorem ChB_e {f : Int → Int} {y z t : Int} {x : Int32} (hx : x.toInt = 0) (e : y = z) : ChB 30 f y t ↔ ChB (30 - x.toInt.toNat) f z t := by rw [show 30 - x.toInt.toNat = 30 by omega, e]
theorem ChB_s {P : Prop} {f : Int → Int} {o o2 t : Int} {x y : Int32} (h : P ↔ ChB (30 - x.toInt.toNat) f o t) (h0 : 0 ≤ x.toInt ∧ x.toInt < 30) (hy : y.toInt = x.toInt + 1) (hn : ¬ o = t) (hf : f o = o2) : P ↔ ChB (30 - y.toInt.toNat) f o2 t := h.trans (by rw [show 30 - x.toInt.toNat = (30 - y.toInt.toNat) + 1 by omega, ChB_n hn, hf])
theorem ChB_y {P : Prop} {f : Int → Int} {o t : Int} {x : Int32} (h : P ↔ ChB (30 - x.toInt.toNat) f o t) (h0 : 0 ≤ x.toInt ∧ x.toInt < 30) (e : o = t) : P := h.mpr (by rw [show 30 - x.toInt.toNat = (29 - x.toInt.toNat) + 1 by omega]; exact ChB_h e)
theorem ChB_x {P : Prop} {f : Int → Int} {o t : Int} {x : Int32} (h : P ↔ ChB (30 - x.toInt.toNat) f o t) (hx : 30 ≤ x.toInt ∨ o = -9) (hf : f (-9) = -9) (ht : ¬ t = -9) : ¬ P := by
  intro p
  have q := h.mp p
  rcases hx with hx | hx
  · rw [show 30 - x.toInt.toNat = 0 by omega] at q
    exact ChB_0 q
  · rw [hx] at q
    exact ChB_9 hf ht q
theorem ShB_e {f : Int → Int} {st : Int → Prop} {y z : Int} {x : Int32} (hx : x.toInt = 0) (e : y = z) : ShB f st 30 y = ShB f st (30 - x.toInt.toNat) z := by rw [show 30 - x.toInt.toNat = 30 by omega, e]
theorem ShB_s {f : Int → Int} {st : Int → Prop} {v o o2 : Int} {x y : Int32} (h : v = ShB f st (30 - x.toInt.toNat) o) (h0 : 0 ≤ x.toInt ∧ x.toInt < 30) (hy : y.toInt = x.toInt + 1) (h9 : ¬ o = -9) (hs : ¬ st o) (hf : f o = o2) : v = ShB f st (30 - y.toInt.toNat) o2 := h.trans (by rw [show 30 - x.toInt.toNat = (30 - y.toInt.toNat) + 1 by omega, ShB_n h9 hs, hf])
theorem ShB_r {f : Int → Int} {st : Int → Prop} {v o : Int} {x : Int32} (h : v = ShB f st (30 - x.toInt.toNat) o) (h0 : 0 ≤ x.toInt ∧ x.toInt < 30) (h9 : ¬ o = -9) (hs : st o) : o = v := by rw [h, show 30 - x.toInt.toNat = (29 - x.toInt.toNat) + 1 by omega, ShB_y h9 hs]
theorem ShB_z {f : Int → Int} {st : Int → Prop} {v o : Int} {x : Int32} (h : v = ShB f st (30 - x.toInt.toNat) o) (hx : 30 ≤ x.toInt ∨ o = -9) : -9 = v := by
  rw [h]
  rcases hx with hx | hx
  · rw [show 30 - x.toInt.toNat = 0 by omega]; rfl
  · rw [hx, ShB_9]
theorem InB_e {f : Int → Int} {cv : Int → Prop} {s y z : Int} {x : Int32} (hx : x.toInt = 0) (e : y = z) : InB 30 f cv s y ↔ InB (30 - x.toInt.toNat) f cv s z := by rw [show 30 - x.toInt.toNat = 30 by omega, e]
theorem InB_s {P : Prop} {f : Int → Int} {cv : Int → Prop} {s o o2 : Int} {x y : Int32} (h : P ↔ InB (30 - x.toInt.toNat) f cv s o) (h0 : 0 ≤ x.toInt ∧ x.toInt < 30) (hy : y.toInt = x.toInt + 1) (hn : ¬ o = s) (hc : ¬ cv o) (hf : f o = o2) : P ↔ InB (30 - y.toInt.toNat) f cv s o2 := h.trans (by rw [show 30 - x.toInt.toNat = (30 - y.toInt.toNat) + 1 by omega, InB_n hn hc, hf])
theorem InB_y {P : Prop} {f : Int → Int} {cv : Int → Prop} {s o : Int} {x : Int32} (h : P ↔ InB (30 - x.toInt.toNat) f cv s o) (h0 : 0 ≤ x.toInt ∧ x.toInt < 30) (e : o = s) : P := h.mpr (by rw [show 30 - x.toInt.toNat = (29 - x.toInt.toNat) + 1 by omega]; exact InB_h e)
theorem InB_x {P : Prop} {f : Int → Int} {cv : Int → Prop} {s o : Int} {x : Int32} (h : P ↔ InB (30 - x.toInt.toNat) f cv s o) (hx : 30 ≤ x.toInt ∨ o = -9 ∨ (¬ o = s ∧ cv o)) (hf : f (-9) = -9) (ht : ¬ s = -9) : ¬ P := by
  intro p
  have q := h.mp p
  rcases hx with hx | hx | hx
  · rw [show 30 - x.toInt.toNat = 0 by omega] at q
    exact InB_0 q
  · rw [hx] at q
    exact InB_9 hf ht q
  · exact InB_c hx.1 hx.2 q
/-- a bit of a cell -/
def bT (ce : Nat → Int32) (k x : Int) : Prop := hbt (ce x.toNat) k
def sD (f1 f2 : Nat → Int32) (s o : Int) : Prop := (f1 o.toNat).toInt = s ∨ (f2 o.toNat).toInt = s
/-! what is seen -/
def Cv (Z : Int → Int) (op gl : Int → Prop) (l : Prop) (x : Int) : Prop := Z x = 3 ∧ ¬ op x ∧ (l ∨ ¬ gl x)
def StpC (Z : Int → Int) (op gl : Int → Prop) (l : Prop) (x : Int) : Prop := Z x = 0 ∨ Cv Z op gl l x
noncomputable def shl (Z f : Int → Int) (op gl : Int → Prop) (l : Prop) (p : Int) : Int := ShB f (StpC Z op gl l) 30 (f p)
def Vw (Z f : Int → Int) (op gl : Int → Prop) (sd : Int → Int → Prop) (l : Prop) (s o : Int) : Prop := ¬ s = -9 ∧ ((o = s ∧ Z s = 3) ∨ (¬ o = s ∧ Z o = 2 ∧ sd s o) ∨ (¬ o = s ∧ ¬ Z o = 2 ∧ InB 30 f (Cv Z op gl l) s (f o)))
/-- he himself, and what is in view of the shell -/
def V1 (Z f : Int → Int) (op gl : Int → Prop) (sd : Int → Int → Prop) (l : Prop) (p o : Int) : Prop := o = p ∨ Vw Z f op gl sd l (shl Z f op gl l p) o
def BrM (Z f : Int → Int) (op gl lt : Int → Prop) (sd : Int → Int → Prop) (p m : Int) : Prop := (Z (shl Z f op gl ((1 : Int) ≤ 0) p) = 0 ∧ lt (shl Z f op gl ((1 : Int) ≤ 0) p)) ∨ ∃ o : Int, 0 ≤ o ∧ o < m ∧ V1 Z f op gl sd ((1 : Int) ≤ 0) p o ∧ lt o
def Own (f fm : Int → Int) (p o : Int) : Prop := f o = p ∧ (fm o = 2 ∨ fm o = 3)
def SnP (Z f fm : Int → Int) (op gl lt : Int → Prop) (sd : Int → Int → Prop) (p N o : Int) : Prop := Own f fm p o ∨ (BrM Z f op gl lt sd p N ∧ V1 Z f op gl sd ((1 : Int) ≤ 0) p o)
def RcP (Z f fm : Int → Int) (op gl lt : Int → Prop) (sd : Int → Int → Prop) (p N o : Int) : Prop := SnP Z f fm op gl lt sd p N o ∧ V1 Z f op gl sd ((1 : Int) ≤ 1) p o
def LkR (Z f fm : Int → Int) (op gl lt : Int → Prop) (sd : Int → Int → Prop) (p N : Int) (sn rc : Nat → Int32) (br : Int32) : Prop := Sm br (BrM Z f op gl lt sd p N) ∧ ∀ o : Nat, (o : Int) < N → Sm (sn o) (SnP Z f fm op gl lt sd p N o) ∧ Sm (rc o) (RcP Z f fm op gl lt sd p N o)
/-- the form of a place -/
def fX (ce : Nat → Int32) (x : Int) : Int := if 0 ≤ x ∧ x ≤ 29 ∧ ¬ (ce x.toNat).toInt % 256 = 255 then (ce x.toNat).toInt % 8 else -9
theorem fX_at {ce : Nat → Int32} {x r : Int32} (hx : 0 ≤ x.toInt ∧ x.toInt ≤ 29) (h : (r.toInt = -9 ∧ (ce x.toNatClampNeg).toInt % 256 = 255) ∨ (0 ≤ r.toInt ∧ r.toInt ≤ 4 ∧ ¬ (ce x.toNatClampNeg).toInt % 256 = 255 ∧ r.toInt = (ce x.toNatClampNeg).toInt % 8)) : fX ce x.toInt = r.toInt := by
  have e : x.toNatClampNeg = x.toInt.toNat := rfl
  rw [e] at h
  unfold fX
  rcases h with h | h
  · rw [if_neg (by omega)]; omega
  · rw [if_pos (by omega)]; omega
/-- something lies so -/
def lsP (ce : Nat → Int32) (f h : Int) (o : Nat) : Bool := decide ((ce o).toInt % 256 = h * 8 + f)
theorem lsP_y {ce : Nat → Int32} {f h : Int} {o : Nat} (e : (ce o).toInt % 256 = h * 8 + f) : lsP ce f h o = true := decide_eq_true (p := (ce o).toInt % 256 = h * 8 + f) e
theorem lsP_e {ce : Nat → Int32} {f h : Int} {o : Nat} (e : lsP ce f h o = true) : (ce o).toInt % 256 = h * 8 + f := of_decide_eq_true (p := (ce o).toInt % 256 = h * 8 + f) e
theorem cn_y {P : Nat → Bool} {x y k k2 : Int32} (h : k.toInt = ((cnt P x.toInt.toNat : Nat) : Int)) (h0 : 0 ≤ x.toInt) (hp : P x.toNatClampNeg = true) (hk : k2.toInt = k.toInt + 1) (hy : y.toInt = x.toInt + 1) : k2.toInt = ((cnt P y.toInt.toNat : Nat) : Int) := by
  rw [show y.toInt.toNat = x.toInt.toNat + 1 by omega]
  show k2.toInt = ((cnt P x.toInt.toNat + (if P x.toInt.toNat = true then 1 else 0) : Nat) : Int)
  rw [if_pos (show P x.toInt.toNat = true from hp)]; omega
theorem cn_n {P : Nat → Bool} {x y k : Int32} (h : k.toInt = ((cnt P x.toInt.toNat : Nat) : Int)) (h0 : 0 ≤ x.toInt) (hp : ¬ P x.toNatClampNeg = true) (hy : y.toInt = x.toInt + 1) : k.toInt = ((cnt P y.toInt.toNat : Nat) : Int) := by
  rw [show y.toInt.toNat = x.toInt.toNat + 1 by omega]
  show k.toInt = ((cnt P x.toInt.toNat + (if P x.toInt.toNat = true then 1 else 0) : Nat) : Int)
  rw [if_neg (show ¬ P x.toInt.toNat = true from hp)]; omega
/-! looking around: the two rows as they are filled -/
def LkA (V : Int → Prop) (sn : Nat → Int32) (m : Int) : Prop := ∀ o : Nat, (o : Int) < m → Sm (sn o) (V o)
theorem LkA_0 {V : Int → Prop} {sn : Nat → Int32} {x : Int32} (h : x.toInt = 0) : LkA V sn x.toInt := fun o ho => by omega
theorem LkA_s {V : Int → Prop} {sn : Nat → Int32} {x y z : Int32} (h : LkA V sn x.toInt) (h0 : 0 ≤ x.toInt) (hy : y.toInt = x.toInt + 1) (hz : Sm z (V x.toInt)) : LkA V (upd sn x.toNatClampNeg z) y.toInt := by
  intro o ho
  by_cases e : o = x.toNatClampNeg
  · rw [e, pk_us, cl_nn h0]; exact hz
  · rw [pk_un e]
    have q : x.toNatClampNeg = x.toInt.toNat := rfl
    exact h o (by omega)
def LkB (V S R : Int → Prop) (sn rc : Nat → Int32) (m N : Int) : Prop := ∀ o : Nat, (o : Int) < N → ((o : Int) < m → Sm (sn o) (S o) ∧ Sm (rc o) (R o)) ∧ (¬ (o : Int) < m → Sm (sn o) (V o))
theorem LkB_0 {V S R : Int → Prop} {sn rc : Nat → Int32} {x : Int32} {N : Int} (hx : x.toInt = 0) (h : LkA V sn N) : LkB V S R sn rc x.toInt N := fun o ho => ⟨fun q => by omega, fun _ => h o ho⟩
theorem LkB_s {V S R : Int → Prop} {sn rc : Nat → Int32} {x y z w : Int32} {N : Int} (h : LkB V S R sn rc x.toInt N) (h0 : 0 ≤ x.toInt) (hy : y.toInt = x.toInt + 1) (hz : Sm z (S x.toInt)) (hw : Sm w (R x.toInt)) : LkB V S R (upd sn x.toNatClampNeg z) (upd rc x.toNatClampNeg w) y.toInt N := by
  intro o ho
  have q : x.toNatClampNeg = x.toInt.toNat := rfl
  by_cases e : o = x.toNatClampNeg
  · rw [e, pk_us, pk_us, cl_nn h0]
    exact ⟨fun _ => ⟨hz, hw⟩, fun p => absurd p (by omega)⟩
  · rw [pk_un e, pk_un e]
    obtain ⟨a, b⟩ := h o ho
    exact ⟨fun p => a (by omega), fun p => b (by omega)⟩
theorem BrM_s {Z f : Int → Int} {op gl lt : Int → Prop} {sd : Int → Int → Prop} {p m : Int} {b b2 : Int32} (h : Sm b (BrM Z f op gl lt sd p m)) (hm : 0 ≤ m) (h2 : Sm b2 (b.toInt = 1 ∨ (V1 Z f op gl sd ((1 : Int) ≤ 0) p m ∧ lt m))) : Sm b2 (BrM Z f op gl lt sd p (m + 1)) := by
  have e : (b.toInt = 1 ∨ (V1 Z f op gl sd ((1 : Int) ≤ 0) p m ∧ lt m)) ↔ BrM Z f op gl lt sd p (m + 1) := by
    constructor
    · intro q
      rcases q with q | q
      · rcases h with h | h
        · rcases h.2 with w | ⟨o, o1, o2, o3⟩
          · exact Or.inl w
          · exact Or.inr ⟨o, o1, by omega, o3⟩
        · exfalso; omega
      · exact Or.inr ⟨m, hm, by omega, q⟩
    · intro q
      rcases q with q | ⟨o, o1, o2, o3⟩
      · rcases h with h | h
        · exact Or.inl h.1
        · exact absurd (Or.inl q) h.2
      · by_cases w : o = m
        · rw [w] at o3; exact Or.inr o3
        · rcases h with h | h
          · exact Or.inl h.1
          · exact absurd (Or.inr ⟨o, o1, by omega, o3⟩) h.2
  rcases h2 with h2 | h2
  · exact Or.inl ⟨h2.1, e.mp h2.2⟩
  · exact Or.inr ⟨h2.1, fun q => h2.2 (e.mpr q)⟩
theorem LkA_m {V : Int → Prop} {sn : Nat → Int32} {m N : Int} (h : LkA V sn m) (hl : N ≤ m) : LkA V sn N := fun o ho => h o (by omega)
theorem BrM_0 {Z f : Int → Int} {op gl lt : Int → Prop} {sd : Int → Int → Prop} {p : Int} {b x : Int32} (hx : x.toInt = 0) (h : Sm b (Z (shl Z f op gl ((1 : Int) ≤ 0) p) = 0 ∧ lt (shl Z f op gl ((1 : Int) ≤ 0) p))) : Sm b (BrM Z f op gl lt sd p x.toInt) := by
  rcases h with h | h
  · exact Or.inl ⟨h.1, Or.inl h.2⟩
  · refine Or.inr ⟨h.1, fun q => ?_⟩
    rcases q with q | ⟨o, o1, o2, _⟩
    · exact h.2 q
    · omega
/-- by whom something is held, worn -/
theorem hd_e {ce : Nat → Int32} {x p k : Int} (hx : 0 ≤ x ∧ x ≤ 29) (hp : 0 ≤ p ∧ p ≤ 29) (hk : 0 ≤ k ∧ k ≤ 4) : (ce x.toNat).toInt % 256 = p * 8 + k ↔ (hF ce x = p ∧ fX ce x = k) := by
  unfold hF fX
  by_cases q : (ce x.toNat).toInt % 256 = 255
  · rw [if_neg (fun w => w.2.2 q), if_neg (fun w => w.2.2 q)]
    omega
  · rw [if_pos ⟨hx.1, hx.2, q⟩, if_pos ⟨hx.1, hx.2, q⟩]
    omega
theorem Own_e {ce : Nat → Int32} {x p : Int} (hx : 0 ≤ x ∧ x ≤ 29) (hp : 0 ≤ p ∧ p ≤ 29) : Own (hF ce) (fX ce) p x ↔ ((ce x.toNat).toInt % 256 = p * 8 + 2 ∨ (ce x.toNat).toInt % 256 = p * 8 + 3) := by
  rw [hd_e hx hp (k := 2) (by omega), hd_e hx hp (k := 3) (by omega)]
  unfold Own
  constructor
  · rintro ⟨a, b | b⟩
    · exact Or.inl ⟨a, b⟩
    · exact Or.inr ⟨a, b⟩
  · rintro (⟨a, b⟩ | ⟨a, b⟩)
    · exact ⟨a, Or.inl b⟩
    · exact ⟨a, Or.inr b⟩
/-! reasons -/
def Hd (f fm : Int → Int) (p x : Int) : Prop := f x = p ∧ fm x = 2
def ByR (Z f fm : Int → Int) (p : Int) : Prop := fm p = 0 ∧ Z (f p) = 0
noncomputable def goV (bw : Prop) (ld dr : Int) (op : Int → Prop) : Int := iV (¬ bw) 1 (iV (ld = -9) 2 (iV (¬ dr = -9 ∧ ¬ op dr) 3 0))
noncomputable def takeV (sn up hd bad rc an ov : Prop) : Int := iV (¬ sn) 4 (iV up 5 (iV hd 6 (iV bad 7 (iV (¬ rc) 8 (iV an 9 (iV ov 10 0))))))
noncomputable def putV (sn fit slf cl rc ful : Prop) : Int := iV (¬ sn) 4 (iV (¬ fit) 12 (iV slf 13 (iV cl 3 (iV (¬ rc) 8 (iV ful 14 0)))))
noncomputable def leafV (v : Int) (op lk : Prop) (k : Int) : Int := if v = 5 then iV op 15 (iV lk 16 k) else if v = 6 then iV (¬ op) 3 k else if v = 7 then iV (¬ lk) 17 k else iV lk 16 (iV op 15 k)
noncomputable def shutV (v : Int) (sn sh op lk rc : Prop) (k : Int) : Int := iV (¬ sn) 4 (iV (¬ sh) 12 (leafV v op lk (iV (¬ rc) 8 k)))
noncomputable def keyV (hd ky : Prop) : Int := iV (¬ hd) 11 (iV (¬ ky) 18 0)
noncomputable def wearV (hd gm : Prop) : Int := iV (¬ hd) 11 (iV (¬ gm) 19 0)
noncomputable def enterV (sn fit up cl rc at_ : Prop) : Int := iV (¬ sn) 4 (iV (¬ fit) 12 (iV up 13 (iV cl 3 (iV (¬ rc) 8 (iV at_ 20 0)))))
noncomputable def leaveV (bw cl fo : Prop) : Int := iV bw 1 (iV cl 3 (iV (¬ fo) 21 0))
/-- another person on the way up -/
def AnB (Z f : Int → Int) (p : Int) (k : Nat) (x : Int) : Prop := ∃ m : Nat, m < k ∧ ¬ itr f m x = p ∧ Z (itr f m x) = 5 ∧ ∀ j : Nat, j ≤ m → ¬ itr f j x = -9
theorem AnB_e {Z f : Int → Int} {p y z : Int} {x : Int32} (hx : x.toInt = 0) (e : y = z) : AnB Z f p 30 y ↔ AnB Z f p (30 - x.toInt.toNat) z := by rw [show 30 - x.toInt.toNat = 30 by omega, e]
theorem AnB_n {Z f : Int → Int} {p x : Int} {k : Nat} (h9 : ¬ x = -9) (hn : ¬ (¬ x = p ∧ Z x = 5)) : AnB Z f p (k + 1) x ↔ AnB Z f p k (f x) := by
  constructor
  · rintro ⟨m, h1, h2, h3, h4⟩
    cases m with
    | zero => exact absurd ⟨h2, h3⟩ hn
    | succ m => exact ⟨m, by omega, by rw [← itr_s]; exact h2, by rw [← itr_s]; exact h3, fun j hj => by rw [← itr_s]; exact h4 (j + 1) (by omega)⟩
  · rintro ⟨m, h1, h2, h3, h4⟩
    refine ⟨m + 1, by omega, by rw [itr_s]; exact h2, by rw [itr_s]; exact h3, fun j hj => ?_⟩
    cases j with
    | zero => exact h9
    | succ j => rw [itr_s]; exact h4 j (by omega)
theorem AnB_s {P : Prop} {Z f : Int → Int} {p o o2 : Int} {x y : Int32} (h : P ↔ AnB Z f p (30 - x.toInt.toNat) o) (h0 : 0 ≤ x.toInt ∧ x.toInt < 30) (hy : y.toInt = x.toInt + 1) (h9 : ¬ o = -9) (hn : ¬ (¬ o = p ∧ Z o = 5)) (hf : f o = o2) : P ↔ AnB Z f p (30 - y.toInt.toNat) o2 := h.trans (by rw [show 30 - x.toInt.toNat = (30 - y.toInt.toNat) + 1 by omega, AnB_n h9 hn, hf])
theorem AnB_y {P : Prop} {Z f : Int → Int} {p o : Int} {x : Int32} (h : P ↔ AnB Z f p (30 - x.toInt.toNat) o) (h0 : 0 ≤ x.toInt ∧ x.toInt < 30) (h9 : ¬ o = -9) (hn : ¬ o = p ∧ Z o = 5) : P := h.mpr ⟨0, by omega, hn.1, hn.2, fun j hj => by rw [show j = 0 by omega]; exact h9⟩
theorem AnB_x {P : Prop} {Z f : Int → Int} {p o : Int} {x : Int32} (h : P ↔ AnB Z f p (30 - x.toInt.toNat) o) (hx : 30 ≤ x.toInt ∨ o = -9) : ¬ P := by
  intro q
  obtain ⟨m, h1, _, _, h4⟩ := h.mp q
  rcases hx with hx | hx
  · omega
  · exact h4 0 (by omega) hx
theorem sm_nz {r : Int32} {P : Prop} (h : Sm r P) : (¬ r.toInt = 0) ↔ P := by
  rcases h with h | h
  · exact ⟨fun _ => h.2, fun _ => by omega⟩
  · exact ⟨fun q => absurd h.1 q, fun q => absurd q h.2⟩
theorem leafV_k {v : Int} {op lk : Prop} {k : Int} : (leafV v op lk 0 = 0 ∧ leafV v op lk k = k) ∨ (¬ leafV v op lk 0 = 0 ∧ leafV v op lk k = leafV v op lk 0) := by
  unfold leafV
  by_cases q5 : v = 5
  · simp only [if_pos q5]
    by_cases a : op
    · simp only [iV_y a]; first | exact Or.inr ⟨by decide, rfl⟩ | exact Or.inl ⟨rfl, rfl⟩ | exact Or.inr ⟨by decide, trivial⟩ | exact Or.inl ⟨trivial, trivial⟩ | simp
    · simp only [iV_n a]
      by_cases b : lk
      · simp only [iV_y b]; first | exact Or.inr ⟨by decide, rfl⟩ | exact Or.inl ⟨rfl, rfl⟩ | exact Or.inr ⟨by decide, trivial⟩ | exact Or.inl ⟨trivial, trivial⟩ | simp
      · simp only [iV_n b]; first | exact Or.inr ⟨by decide, rfl⟩ | exact Or.inl ⟨rfl, rfl⟩ | exact Or.inr ⟨by decide, trivial⟩ | exact Or.inl ⟨trivial, trivial⟩ | simp
  · simp only [if_neg q5]
    by_cases q6 : v = 6
    · simp only [if_pos q6]
      by_cases a : ¬ op
      · simp only [iV_y a]; first | exact Or.inr ⟨by decide, rfl⟩ | exact Or.inl ⟨rfl, rfl⟩ | exact Or.inr ⟨by decide, trivial⟩ | exact Or.inl ⟨trivial, trivial⟩ | simp
      · simp only [iV_n a]; first | exact Or.inr ⟨by decide, rfl⟩ | exact Or.inl ⟨rfl, rfl⟩ | exact Or.inr ⟨by decide, trivial⟩ | exact Or.inl ⟨trivial, trivial⟩ | simp
    · simp only [if_neg q6]
      by_cases q7 : v = 7
      · simp only [if_pos q7]
        by_cases a : ¬ lk
        · simp only [iV_y a]; first | exact Or.inr ⟨by decide, rfl⟩ | exact Or.inl ⟨rfl, rfl⟩ | exact Or.inr ⟨by decide, trivial⟩ | exact Or.inl ⟨trivial, trivial⟩ | simp
        · simp only [iV_n a]; first | exact Or.inr ⟨by decide, rfl⟩ | exact Or.inl ⟨rfl, rfl⟩ | exact Or.inr ⟨by decide, trivial⟩ | exact Or.inl ⟨trivial, trivial⟩ | simp
      · simp only [if_neg q7]
        by_cases b : lk
        · simp only [iV_y b]; first | exact Or.inr ⟨by decide, rfl⟩ | exact Or.inl ⟨rfl, rfl⟩ | exact Or.inr ⟨by decide, trivial⟩ | exact Or.inl ⟨trivial, trivial⟩ | simp
        · simp only [iV_n b]
          by_cases a : op
          · simp only [iV_y a]; first | exact Or.inr ⟨by decide, rfl⟩ | exact Or.inl ⟨rfl, rfl⟩ | exact Or.inr ⟨by decide, trivial⟩ | exact Or.inl ⟨trivial, trivial⟩ | simp
          · simp only [iV_n a]; first | exact Or.inr ⟨by decide, rfl⟩ | exact Or.inl ⟨rfl, rfl⟩ | exact Or.inr ⟨by decide, trivial⟩ | exact Or.inl ⟨trivial, trivial⟩ | simp
theorem leafV_n {v : Int} {op lk : Prop} {k : Int} (h : ¬ leafV v op lk 0 = 0) : leafV v op lk k = leafV v op lk 0 := by
  rcases leafV_k (v := v) (op := op) (lk := lk) (k := k) with w | w
  · exact absurd w.1 h
  · exact w.2
theorem leafV_0 {v : Int} {op lk : Prop} {k : Int} (h : leafV v op lk 0 = 0) : leafV v op lk k = k := by
  rcases leafV_k (v := v) (op := op) (lk := lk) (k := k) with w | w
  · exact w.2
  · exact absurd h w.1
def kyV (kb A : Nat → Int32) (x : Int) : Int := if (kb x.toNat).toInt = -9 then -9 else (A (kb x.toNat).toNatClampNeg).toInt
theorem zX_i {so ko : Nat → Int32} {N x : Int} (h : 0 ≤ x ∧ x < N) : zX so ko N x = (so (ko x.toNat).toNatClampNeg).toInt := if_pos h
/-! bulks, as numbers of 32 bits -/
def sumI (g : Nat → Int32) : Nat → Int32
  | 0 => 0
  | n + 1 => sumI g n + g n
theorem sumI_y {g : Nat → Int32} {x y s s2 r : Int32} (h : s = sumI g x.toInt.toNat) (h0 : 0 ≤ x.toInt) (hy : y.toInt = x.toInt + 1) (hg : g x.toInt.toNat = r) (hs : s2 = s + r) : s2 = sumI g y.toInt.toNat := by
  rw [show y.toInt.toNat = x.toInt.toNat + 1 by omega, hs, h, ← hg]
  rfl
theorem sumI_n {g : Nat → Int32} {x y s : Int32} (h : s = sumI g x.toInt.toNat) (h0 : 0 ≤ x.toInt) (hy : y.toInt = x.toInt + 1) (hg : g x.toInt.toNat = 0) : s = sumI g y.toInt.toNat := by
  rw [show y.toInt.toNat = x.toInt.toNat + 1 by omega, h]
  show sumI g x.toInt.toNat = sumI g x.toInt.toNat + g x.toInt.toNat
  rw [hg]
  exact (Int32.add_zero _).symm
def wtB (Z : Int → Int) (sz : Nat → Int32) (ls : Int → Int → Nat → Bool) (N : Nat) : Nat → Nat → Int32
  | 0, _ => 0
  | k + 1, o => if Z (o : Int) = 3 then sz o + sumI (fun x => if ls 0 (o : Int) x = true then wtB Z sz ls N k x else 0) N else if Z (o : Int) = 4 then sz o + sumI (fun x => if ls 1 (o : Int) x = true then wtB Z sz ls N k x else 0) N else if Z (o : Int) = 2 then (if (sz o).toInt = 0 then -9 else 100 / sz o) else if Z (o : Int) = 5 then 2 * sz o else sz o
theorem wtB_3 {Z : Int → Int} {sz : Nat → Int32} {ls : Int → Int → Nat → Bool} {N k : Nat} {w : Int} (h : Z ((w.toNat : Nat) : Int) = 3) : wtB Z sz ls N (k + 1) w.toNat = sz w.toNat + sumI (fun x => if ls 0 ((w.toNat : Nat) : Int) x = true then wtB Z sz ls N k x else 0) N := if_pos h
theorem wtB_4 {Z : Int → Int} {sz : Nat → Int32} {ls : Int → Int → Nat → Bool} {N k : Nat} {w : Int} (h : Z ((w.toNat : Nat) : Int) = 4) : wtB Z sz ls N (k + 1) w.toNat = sz w.toNat + sumI (fun x => if ls 1 ((w.toNat : Nat) : Int) x = true then wtB Z sz ls N k x else 0) N := by
  show (if _ then _ else _) = _
  rw [if_neg (by omega), if_pos h]
theorem wtB_d0 {Z : Int → Int} {sz : Nat → Int32} {ls : Int → Int → Nat → Bool} {N k : Nat} {w : Int} (h : Z ((w.toNat : Nat) : Int) = 2) (hs : (sz w.toNat).toInt = 0) : wtB Z sz ls N (k + 1) w.toNat = -9 := by
  show (if _ then _ else _) = _
  rw [if_neg (by omega), if_neg (by omega), if_pos h, if_pos hs]
theorem wtB_d {Z : Int → Int} {sz : Nat → Int32} {ls : Int → Int → Nat → Bool} {N k : Nat} {w : Int} (h : Z ((w.toNat : Nat) : Int) = 2) (hs : ¬ (sz w.toNat).toInt = 0) : wtB Z sz ls N (k + 1) w.toNat = 100 / sz w.toNat := by
  show (if _ then _ else _) = _
  rw [if_neg (by omega), if_neg (by omega), if_pos h, if_neg hs]
theorem wtB_5 {Z : Int → Int} {sz : Nat → Int32} {ls : Int → Int → Nat → Bool} {N k : Nat} {w : Int} (h : Z ((w.toNat : Nat) : Int) = 5) : wtB Z sz ls N (k + 1) w.toNat = 2 * sz w.toNat := by
  show (if _ then _ else _) = _
  rw [if_neg (by omega), if_neg (by omega), if_neg (by omega), if_pos h]
theorem wtB_e {Z : Int → Int} {sz : Nat → Int32} {ls : Int → Int → Nat → Bool} {N k : Nat} {w : Int} (h3 : ¬ Z ((w.toNat : Nat) : Int) = 3) (h4 : ¬ Z ((w.toNat : Nat) : Int) = 4) (h2 : ¬ Z ((w.toNat : Nat) : Int) = 2) (h5 : ¬ Z ((w.toNat : Nat) : Int) = 5) : wtB Z sz ls N (k + 1) w.toNat = sz w.toNat := by
  show (if _ then _ else _) = _
  rw [if_neg h3, if_neg h4, if_neg h2, if_neg h5]
/-- all bits of a cell but one are as they were -/
def FlB (c r : Int32) (k : Int) (on : Prop) : Prop := ∀ f : Int, 0 ≤ f → f ≤ 5 → (hbt r f ↔ ((f = k ∧ on) ∨ (¬ f = k ∧ hbt c f)))
theorem FlB_on {c b r : Int32} {k : Nat} {e : Int} {on : Prop} (hk : k < 6) (eb : b = nI (2 ^ (8 + k))) (er : r = c ||| b) (ek : (k : Int) = e) (ho : on) : FlB c r e on := by
  intro f h0 h5
  rw [fl_on hk eb er ⟨h0, h5⟩, ek]
  constructor
  · intro h
    by_cases q : f = e
    · exact Or.inl ⟨q, ho⟩
    · rcases h with h | h
      · exact absurd h q
      · exact Or.inr ⟨q, h⟩
  · intro h
    rcases h with h | h
    · exact Or.inl h.1
    · exact Or.inr h.2
theorem FlB_off {c b y r : Int32} {k : Nat} {e : Int} {on : Prop} (hk : k < 6) (eb : b = nI (2 ^ (8 + k))) (ey : y = b ^^^ (-1)) (er : r = c &&& y) (ek : (k : Int) = e) (ho : ¬ on) : FlB c r e on := by
  intro f h0 h5
  rw [fl_off hk eb ey er ⟨h0, h5⟩, ek]
  constructor
  · intro h
    exact Or.inr h
  · intro h
    rcases h with h | h
    · exact absurd h.2 ho
    · exact h
def rxV (v go tk hd sh wr en lv : Int) : Int := if v = 0 then go else if v = 1 then tk else if v = 2 ∨ v = 3 ∨ v = 4 then hd else if 5 ≤ v ∧ v ≤ 8 then sh else if v = 9 then wr else if v = 10 then en else if v = 11 then lv else 0
def ryV (v pi po ky : Int) : Int := if v = 3 then pi else if v = 4 then po else if v = 7 ∨ v = 8 then ky else 0
theorem FlB_c {c r : Int32} {k : Int} {on on2 : Prop} (h : FlB c r k on) (e : on ↔ on2) : FlB c r k on2 := by rw [← propext e]; exact h
/-- whose cell an act changes, and what it is then -/
def sbI (v : Int) (p x : Int32) : Int32 := if v = 0 ∨ 10 ≤ v then p else x
theorem sbI_e {v : Int} {p x r : Int32} (h : (r.toInt = p.toInt ∧ (v = 0 ∨ 10 ≤ v)) ∨ (r.toInt = x.toInt ∧ ¬ (v = 0 ∨ 10 ≤ v))) : r = sbI v p x := by
  unfold sbI
  rcases h with h | h
  · rw [if_pos h.2]; exact Int32.toInt_inj.mp h.1
  · rw [if_neg h.2]; exact Int32.toInt_inj.mp h.1
def plF (v : Int) (Z fm f : Int → Int) (p x : Int) : Int := if v = 0 then 0 else if v = 1 then 2 else if v = 2 then fm p else if v = 3 then 0 else if v = 4 then 1 else if v = 9 then 3 else if v = 10 then (if Z x = 3 then 0 else 1) else fm (f p)
def plH (v : Int) (f : Int → Int) (p ld x y : Int) : Int := if v = 0 then ld else if v = 1 ∨ v = 9 then p else if v = 2 then f p else if v = 3 ∨ v = 4 then y else if v = 10 then x else f (f p)
def OuR (v : Int) (c r : Int32) (f h : Int) : Prop := ((v ≤ 4 ∨ (9 ≤ v ∧ v ≤ 11)) ∧ r.toInt = c.toInt / 256 * 256 + h * 8 + f) ∨ ((v = 5 ∨ v = 6) ∧ r.toInt % 256 = c.toInt % 256 ∧ FlB c r 0 (v = 5)) ∨ ((v = 7 ∨ v = 8) ∧ r.toInt % 256 = c.toInt % 256 ∧ FlB c r 1 (v = 8)) ∨ (v = 12 ∧ r = c)
/-! cells as they are said -/
def CeL (bk : Nat → Int32) : Prop := ∀ o : Nat, o < 30 → 0 ≤ (bk o).toInt ∧ (bk o).toInt ≤ 255
def CaB (c : Int32) (Q : Int → Prop) (m : Int) : Prop := ∀ f : Int, 0 ≤ f → f ≤ 5 → (hbt c f ↔ (f < m ∧ Q f))
theorem CaB_0 {c x : Int32} {Q : Int → Prop} (hc : 0 ≤ c.toInt ∧ c.toInt ≤ 255) (hx : x.toInt = 0) : CaB c Q x.toInt := fun f h0 h5 => ⟨fun h => absurd h (hb_0 hc ⟨h0, h5⟩), fun h => by have := h.1; omega⟩
theorem CaB_n {c x y : Int32} {Q : Int → Prop} (h : CaB c Q x.toInt) (h0 : 0 ≤ x.toInt) (hy : y.toInt = x.toInt + 1) (hq : ¬ Q x.toInt) : CaB c Q y.toInt := by
  intro f f0 f5
  rw [h f f0 f5]
  constructor
  · intro w
    exact ⟨by omega, w.2⟩
  · intro w
    refine ⟨?_, w.2⟩
    by_cases e : f = x.toInt
    · rw [e] at w; exact absurd w.2 hq
    · omega
theorem CaB_y {c r x y : Int32} {Q : Int → Prop} {on : Prop} (h : CaB c Q x.toInt) (hF : FlB c r x.toInt on) (h0 : 0 ≤ x.toInt) (hy : y.toInt = x.toInt + 1) (e : on ↔ Q x.toInt) : CaB r Q y.toInt := by
  intro f f0 f5
  rw [hF f f0 f5, h f f0 f5]
  constructor
  · intro w
    rcases w with w | w
    · rw [w.1]; exact ⟨by omega, e.mp w.2⟩
    · exact ⟨by omega, w.2.2⟩
  · intro w
    by_cases q : f = x.toInt
    · rw [q] at w; exact Or.inl ⟨q, e.mpr w.2⟩
    · exact Or.inr ⟨q, by omega, w.2⟩
def StC (ce0 ce bk : Nat → Int32) (Q : Int → Int → Prop) (m : Int) : Prop := ∀ o : Nat, ((o : Int) < m → (ce o).toInt % 256 = (bk o).toInt % 256 ∧ CaB (ce o) (Q o) 6) ∧ (¬ (o : Int) < m → ce o = ce0 o)
theorem StC_0 {ce bk : Nat → Int32} {Q : Int → Int → Prop} {x : Int32} (h : x.toInt = 0) : StC ce ce bk Q x.toInt := fun o => ⟨fun q => by omega, fun _ => rfl⟩
theorem StC_s {ce0 ce bk : Nat → Int32} {Q : Int → Int → Prop} {x y r : Int32} (h : StC ce0 ce bk Q x.toInt) (h0 : 0 ≤ x.toInt) (hy : y.toInt = x.toInt + 1) (h1 : r.toInt % 256 = (bk x.toNatClampNeg).toInt % 256) (h2 : CaB r (Q x.toInt) 6) : StC ce0 (upd ce x.toNatClampNeg r) bk Q y.toInt := by
  intro o
  have q : x.toNatClampNeg = x.toInt.toNat := rfl
  by_cases e : o = x.toNatClampNeg
  · rw [e, pk_us, cl_nn h0]
    exact ⟨fun _ => ⟨h1, h2⟩, fun p => absurd p (by omega)⟩
  · rw [pk_un e]
    exact ⟨fun p => (h o).1 (by omega), fun p => (h o).2 (by omega)⟩
theorem StC_m {ce0 ce bk : Nat → Int32} {Q : Int → Int → Prop} {m N : Int} (h : StC ce0 ce bk Q m) (h1 : m ≤ N) (h2 : N ≤ m) : StC ce0 ce bk Q N := by
  rw [show N = m by omega]
  exact h
theorem SgX_f {fb C : Nat → Int32} {o f v r : Int} (h : SgX fb C o f v r) : r = sgX fb C o f v := by
  unfold sgX
  rcases h with h | h
  · rw [if_pos h.1]; exact h.2
  · rw [if_neg h.1]; exact h.2
def plV (rx ry : Int) : Int := if rx = 0 then ry else rx
def IsA (v x y N : Int) : Prop := 0 ≤ v ∧ v ≤ 12 ∧ (v = 0 → 0 ≤ x ∧ x ≤ 9) ∧ (1 ≤ v ∧ v ≤ 10 → 0 ≤ x ∧ x < N) ∧ (v = 3 ∨ v = 4 ∨ v = 7 ∨ v = 8 → 0 ≤ y ∧ y < N)
def AaR (Q : Prop) (tu th why r : Int) : Prop := (¬ Q ∧ r = -1) ∨ (Q ∧ 100 ≤ tu ∧ r = -2) ∨ (Q ∧ tu ≤ 99 ∧ ¬ th = 1 ∧ r = -5) ∨ (Q ∧ tu ≤ 99 ∧ th = 1 ∧ r = why)
def AsR (X Y S : Prop) : Prop := (¬ X ∧ S) ∨ (X ∧ Y)
theorem sm_fp {r : Int32} {P Q : Prop} [Decidable P] (h : r = if P then 1 else 0) (e : P ↔ Q) : Sm r Q := by
  by_cases q : P
  · rw [if_pos q] at h; rw [h]; exact sm_1 (e.mp q)
  · rw [if_neg q] at h; rw [h]; exact sm_0 (fun w => q (e.mpr w))

def wm_X6_lies_eTS : List Cond := .code yX6_lies cX6_lies 4 (some .boolean) :: (([.fieldLink RX6 9 "TalePlay$Scene" "cells" "[I"] : List Cond) ++ wsX60)
set_option maxHeartbeats 4000000 in
set_option maxRecDepth 100000 in
theorem x_X6_lies_eTS (l : Launch) (D : va_G) (sz : Nat) (sk : Value) (a : Nat → Nat) (t : Nat → ClassId) (i : Nat → Int32) (q : Int64) (c : Nat → Nat → Int32) (d : Nat → Nat → Int64) (w : Int32) (f : Int32) (w2 : Int32) (hI : xInv i c) (hw : 0 ≤ w.toInt ∧ w.toInt ≤ 29) (hf : 0 ≤ f.toInt ∧ f.toInt ≤ 7) (hw2 : 0 ≤ w2.toInt ∧ w2.toInt ≤ 31) : Met l yX6_lies wm_X6_lies_eTS ({ frames := 0, cells := 0, slots := 0, locals := 0 }) (va_Pc [.ref (a 149), .int w, .int f, .int w2] (yA (a 186) D sz (xwP1 sk a t i q c d) (xtP1 t))) (va_Qi (fun (r : Int32) (_ : Unit) => ((0 ≤ r.toInt ∧ r.toInt ≤ 1) ∧ (Sm r ((c 150 w.toInt.toNat).toInt % 256 = w2.toInt * 8 + f.toInt)))) oA (ro sz)) 0 0 (ro sz) := by
  refine Met.ofW (cc := cX6_lies) (maxL := 4) (ret := (some .boolean)) (by decide +kernel) rfl ?_
  intro p e s m args below meth cd s₁ B hml hv
  obtain ⟨rfl, ⟨hsz, hP, hK⟩, hN, hZ⟩ := hv
  have hx := B.exec
  have hb := B.bytes
  have hr := B.returns
  have hts := atoms_spec (ws := wm_X6_lies_eTS) B.pre
  have hown : s.vm.findClass RX6 = some m.cls := findClass_of_methodNamed B.named
  have hlocks := B.notSynchronized
  subst hsz
  have hA : ∀ q : Nat, s.heap.size ≤ q → ro s.heap.size q := fun _ h => h
  have hS : va_S (ro s.heap.size) s.heap s.heap [] := va_S.rf
  have hl := lv_entry ([.ref (a 149), .int w, .int f, .int w2]) (n := 4) (Nat.le_of_ble_eq_true rfl)
  rw [lg_entry_eq]
  generalize (lg_sl ([.ref (a 149), .int w, .int f, .int w2]) ++ List.replicate (4 - (lg_sl ([.ref (a 149), .int w, .int f, .int w2])).length) Slot.unset).toArray = ls at hl ⊢
  have hl : lv_has ls 4 [(0, .ref (a 149)), (1, .int w), (2, .int f), (3, .int w2)] := hl
  refine lv_aload_n hx hb dX6_lies_0 rfl (lv_at hl 0 rfl) ?_
  refine xgP1_TS_cells hx hb hts (fun _ h => List.mem_cons_of_mem _ (List.mem_append_right _ h)) hown hK hP (hts (.fieldLink RX6 9 "TalePlay$Scene" "cells" "[I") (List.mem_cons_of_mem _ (List.mem_append_left _ (List.mem_of_getElem? (i := 0) rfl)))) dX6_lies_1 ?_
  refine lv_iload_n hx hb dX6_lies_4 rfl (lv_at hl 1 rfl) ?_
  refine xlP1_150 hx hb hK hP (vp_in_iff.mpr (by have h9 : w.toInt = w.toInt := rfl; omega)) dX6_lies_5 (fun x1 ex1 => ?_)
  have rx1 : 0 ≤ x1.toInt ∧ x1.toInt ≤ 16383 ∧ (x1.toInt % 256 = 255 ∨ (x1.toInt % 8 ≤ 4 ∧ x1.toInt / 8 % 32 ≤ 29)) := by rw [ex1]; exact hI.2 150 _
  have gx1 : (c 150 (w : Int32).toNatClampNeg).toInt = x1.toInt := (congrArg Int32.toInt ex1).symm
  refine lv_sipush (v := 255) hx hb dX6_lies_6 (by decide +kernel) ?_
  refine lv_iand hx hb dX6_lies_9 ?_
  refine lv_topi (fun x2 ex2 => ?_)
  have bx2 := and255 (by omega) ex2
  refine lv_iload_n hx hb dX6_lies_10 rfl (lv_at hl 3 rfl) ?_
  refine lv_iconst (v := 3) hx hb dX6_lies_11 (by decide +kernel) ?_
  refine lv_ishl hx hb dX6_lies_12 ?_
  refine lv_topi (fun x3 ex3 => ?_)
  refine lv_iload_n hx hb dX6_lies_13 rfl (lv_at hl 2 rfl) ?_
  refine lv_ior hx hb dX6_lies_14 ?_
  refine lv_topi (fun x4 ex4 => ?_)
  have bx4 := lies_c (h := w2) (f := f) (by omega) (by omega) ex3 ex4
  refine lv_icmp_ne (tgt := 22) hx hb dX6_lies_15 (by decide +kernel) (fun c5 => ?_) (fun c5 => ?_)
  · have f5 := mt (ti_eq (a := (x1.toInt % 256)) (b := (w2.toInt * 8 + f.toInt)) bx2 bx4).mpr c5
    refine lv_iconst (v := 0) hx hb dX6_lies_22 (by decide +kernel) ?_
    exact ro_zret hx hb hr hlocks hS rfl dX6_lies_23 ⟨(show 0 ≤ (0 : Int32).toInt ∧ (0 : Int32).toInt ≤ 1 from by have h9 : (0 : Int32).toInt = 0 := (by decide +kernel); omega), (show Sm (0 : Int32) ((c 150 w.toInt.toNat).toInt % 256 = w2.toInt * 8 + f.toInt) from sm_0 (by have h9 : (c 150 w.toInt.toNat).toInt = x1.toInt := gx1; omega))⟩
  · have f5 := (ti_eq (a := (x1.toInt % 256)) (b := (w2.toInt * 8 + f.toInt)) bx2 bx4).mp c5
    refine lv_iconst (v := 1) hx hb dX6_lies_18 (by decide +kernel) ?_
    refine lv_goto (tgt := 23) hx hb dX6_lies_19 (by decide +kernel) ?_
    exact ro_zret hx hb hr hlocks hS rfl dX6_lies_23 ⟨(show 0 ≤ (1 : Int32).toInt ∧ (1 : Int32).toInt ≤ 1 from by have h9 : (1 : Int32).toInt = 1 := (by decide +kernel); omega), (show Sm (1 : Int32) ((c 150 w.toInt.toNat).toInt % 256 = w2.toInt * 8 + f.toInt) from sm_1 (by have h9 : (c 150 w.toInt.toNat).toInt = x1.toInt := gx1; omega))⟩

def wm_X6_has_eTS : List Cond := .code yX6_has cX6_has 3 (some .boolean) :: (([.fieldLink RX6 9 "TalePlay$Scene" "cells" "[I"] : List Cond) ++ wsX60)
set_option maxHeartbeats 4000000 in
set_option maxRecDepth 100000 in
theorem x_X6_has_eTS (l : Launch) (D : va_G) (sz : Nat) (sk : Value) (a : Nat → Nat) (t : Nat → ClassId) (i : Nat → Int32) (q : Int64) (c : Nat → Nat → Int32) (d : Nat → Nat → Int64) (w : Int32) (f : Int32) (hI : xInv i c) (hw : 0 ≤ w.toInt ∧ w.toInt ≤ 29) (hf : 0 ≤ f.toInt ∧ f.toInt ≤ 5) : Met l yX6_has wm_X6_has_eTS ({ frames := 0, cells := 0, slots := 0, locals := 0 }) (va_Pc [.ref (a 149), .int w, .int f] (yA (a 186) D sz (xwP1 sk a t i q c d) (xtP1 t))) (va_Qi (fun (r : Int32) (_ : Unit) => ((0 ≤ r.toInt ∧ r.toInt ≤ 1) ∧ (Sm r (hbt (c 150 w.toInt.toNat) f.toInt)))) oA (ro sz)) 0 0 (ro sz) := by
  refine Met.ofW (cc := cX6_has) (maxL := 3) (ret := (some .boolean)) (by decide +kernel) rfl ?_
  intro p e s m args below meth cd s₁ B hml hv
  obtain ⟨rfl, ⟨hsz, hP, hK⟩, hN, hZ⟩ := hv
  have hx := B.exec
  have hb := B.bytes
  have hr := B.returns
  have hts := atoms_spec (ws := wm_X6_has_eTS) B.pre
  have hown : s.vm.findClass RX6 = some m.cls := findClass_of_methodNamed B.named
  have hlocks := B.notSynchronized
  subst hsz
  have hA : ∀ q : Nat, s.heap.size ≤ q → ro s.heap.size q := fun _ h => h
  have hS : va_S (ro s.heap.size) s.heap s.heap [] := va_S.rf
  have hl := lv_entry ([.ref (a 149), .int w, .int f]) (n := 3) (Nat.le_of_ble_eq_true rfl)
  rw [lg_entry_eq]
  generalize (lg_sl ([.ref (a 149), .int w, .int f]) ++ List.replicate (3 - (lg_sl ([.ref (a 149), .int w, .int f])).length) Slot.unset).toArray = ls at hl ⊢
  have hl : lv_has ls 3 [(0, .ref (a 149)), (1, .int w), (2, .int f)] := hl
  refine lv_aload_n hx hb dX6_has_0 rfl (lv_at hl 0 rfl) ?_
  refine xgP1_TS_cells hx hb hts (fun _ h => List.mem_cons_of_mem _ (List.mem_append_right _ h)) hown hK hP (hts (.fieldLink RX6 9 "TalePlay$Scene" "cells" "[I") (List.mem_cons_of_mem _ (List.mem_append_left _ (List.mem_of_getElem? (i := 0) rfl)))) dX6_has_1 ?_
  refine lv_iload_n hx hb dX6_has_4 rfl (lv_at hl 1 rfl) ?_
  refine xlP1_150 hx hb hK hP (vp_in_iff.mpr (by have h9 : w.toInt = w.toInt := rfl; omega)) dX6_has_5 (fun x1 ex1 => ?_)
  have rx1 : 0 ≤ x1.toInt ∧ x1.toInt ≤ 16383 ∧ (x1.toInt % 256 = 255 ∨ (x1.toInt % 8 ≤ 4 ∧ x1.toInt / 8 % 32 ≤ 29)) := by rw [ex1]; exact hI.2 150 _
  have gx1 : (c 150 (w : Int32).toNatClampNeg).toInt = x1.toInt := (congrArg Int32.toInt ex1).symm
  refine lv_bipush (v := 8) hx hb dX6_has_6 (by decide +kernel) ?_
  refine lv_iload_n hx hb dX6_has_8 rfl (lv_at hl 2 rfl) ?_
  refine lv_iadd hx hb dX6_has_9 ?_
  refine lv_topi (fun x2 ex2 => ?_)
  have tx2 := ti_add (a := 8) (b := f.toInt) ex2 (by decide +kernel) rfl (by omega) (by omega)
  refine lv_ishr hx hb dX6_has_10 ?_
  refine lv_topi (fun x3 ex3 => ?_)
  refine lv_iconst (v := 1) hx hb dX6_has_11 (by decide +kernel) ?_
  refine lv_iand hx hb dX6_has_12 ?_
  refine lv_topi (fun x4 ex4 => ?_)
  have hH := has_b (c := x1) (f := f) (x := x2) (by omega) (by omega) tx2 ex3 ex4
  refine lv_iconst (v := 1) hx hb dX6_has_13 (by decide +kernel) ?_
  refine lv_icmp_ne (tgt := 21) hx hb dX6_has_14 (by decide +kernel) (fun c5 => ?_) (fun c5 => ?_)
  · have f5 := mt (ti_eq (a := x4.toInt) (b := 1) rfl (by decide +kernel)).mpr c5
    refine lv_iconst (v := 0) hx hb dX6_has_21 (by decide +kernel) ?_
    exact ro_zret hx hb hr hlocks hS rfl dX6_has_22 ⟨(show 0 ≤ (0 : Int32).toInt ∧ (0 : Int32).toInt ≤ 1 from by have h9 : (0 : Int32).toInt = 0 := (by decide +kernel); omega), (show Sm (0 : Int32) (hbt (c 150 w.toInt.toNat) f.toInt) from sm_0 (by rcases hH with h9 | h9; (· exfalso; omega); (· have h8 := h9.2; rw [ex1] at h8; exact h8)))⟩
  · have f5 := (ti_eq (a := x4.toInt) (b := 1) rfl (by decide +kernel)).mp c5
    refine lv_iconst (v := 1) hx hb dX6_has_17 (by decide +kernel) ?_
    refine lv_goto (tgt := 22) hx hb dX6_has_18 (by decide +kernel) ?_
    exact ro_zret hx hb hr hlocks hS rfl dX6_has_22 ⟨(show 0 ≤ (1 : Int32).toInt ∧ (1 : Int32).toInt ≤ 1 from by have h9 : (1 : Int32).toInt = 1 := (by decide +kernel); omega), (show Sm (1 : Int32) (hbt (c 150 w.toInt.toNat) f.toInt) from sm_1 (by rcases hH with h9 | h9; (· have h8 := h9.2; rw [ex1] at h8; exact h8); (· exfalso; omega)))⟩

def wm_X6_isUp_eTS : List Cond := .code yX6_isUp cX6_isUp 5 (some .boolean) :: (([.methodLink RX6 25 yX6_holderOf, .instanceMethod yX6_holderOf, .selects RX6 yX6_holderOf yX6_holderOf, .initialized RX6, .code yX6_holderOf cX6_holderOf 3 (some .int), .fieldLink RX6 9 "TalePlay$Scene" "cells" "[I"] : List Cond) ++ wsX60)
set_option maxRecDepth 20000 in
theorem gm_X6_isUp_eTS_X6_holderOf_TS_25 : GoodIn wm_X6_isUp_eTS (wsV RX6 25 RX6 yX6_holderOf wm_X6_holderOf_TS) := goodIn_w (List.forall_mem_append.mpr ⟨List.forall_mem_cons.mpr ⟨List.mem_cons_of_mem _ (List.mem_append_left _ (List.mem_of_getElem? (i := 0) rfl)), List.forall_mem_cons.mpr ⟨List.mem_cons_of_mem _ (List.mem_append_left _ (List.mem_of_getElem? (i := 1) rfl)), List.forall_mem_cons.mpr ⟨List.mem_cons_of_mem _ (List.mem_append_left _ (List.mem_of_getElem? (i := 2) rfl)), List.forall_mem_cons.mpr ⟨List.mem_cons_of_mem _ (List.mem_append_left _ (List.mem_of_getElem? (i := 3) rfl)), (fun _ h => absurd h List.not_mem_nil)⟩⟩⟩⟩, List.forall_mem_cons.mpr ⟨List.mem_cons_of_mem _ (List.mem_append_left _ (List.mem_of_getElem? (i := 4) rfl)), List.forall_mem_append.mpr ⟨List.forall_mem_cons.mpr ⟨List.mem_cons_of_mem _ (List.mem_append_left _ (List.mem_of_getElem? (i := 5) rfl)), (fun _ h => absurd h List.not_mem_nil)⟩, (fun _ h => List.mem_cons_of_mem _ (List.mem_append_right _ h))⟩⟩⟩) (by decide +kernel)
set_option maxHeartbeats 4000000 in
set_option maxRecDepth 100000 in
theorem x_X6_isUp_eTS (l : Launch) (D : va_G) (sz : Nat) (sk : Value) (a : Nat → Nat) (t : Nat → ClassId) (i : Nat → Int32) (q : Int64) (c : Nat → Nat → Int32) (d : Nat → Nat → Int64) (w1 : Int32) (w2 : Int32) (hI : xInv i c) (hw2 : 0 ≤ w2.toInt ∧ w2.toInt ≤ 29) (hw10 : 0 ≤ w1.toInt) : Met l yX6_isUp wm_X6_isUp_eTS ({ frames := 1, cells := 0, slots := 0, locals := 22 }) (va_Pc [.ref (a 149), .int w1, .int w2] (yA (a 186) D sz (xwP1 sk a t i q c d) (xtP1 t))) (va_Qi (fun (r : Int32) (_ : Unit) => ((0 ≤ r.toInt ∧ r.toInt ≤ 1) ∧ (Sm r (ChB 30 (hF (c 150)) ((hF (c 150)) w2.toInt) w1.toInt)))) oA (ro sz)) 0 0 (ro sz) := by
  refine Met.ofW (cc := cX6_isUp) (maxL := 5) (ret := (some .boolean)) (by decide +kernel) rfl ?_
  intro p e s m args below meth cd s₁ B hml hv
  obtain ⟨rfl, ⟨hsz, hP, hK⟩, hN, hZ⟩ := hv
  have hx := B.exec
  have hb := B.bytes
  have hr := B.returns
  have hts := atoms_spec (ws := wm_X6_isUp_eTS) B.pre
  have hown : s.vm.findClass RX6 = some m.cls := findClass_of_methodNamed B.named
  have hlocks := B.notSynchronized
  subst hsz
  have hA : ∀ q : Nat, s.heap.size ≤ q → ro s.heap.size q := fun _ h => h
  have hS : va_S (ro s.heap.size) s.heap s.heap [] := va_S.rf
  have hl := lv_entry ([.ref (a 149), .int w1, .int w2]) (n := 5) (Nat.le_of_ble_eq_true rfl)
  rw [lg_entry_eq]
  generalize (lg_sl ([.ref (a 149), .int w1, .int w2]) ++ List.replicate (5 - (lg_sl ([.ref (a 149), .int w1, .int w2])).length) Slot.unset).toArray = ls at hl ⊢
  have hl : lv_has ls 5 [(0, .ref (a 149)), (1, .int w1), (2, .int w2)] := hl
  refine lv_aload_n hx hb dX6_isUp_0 rfl (lv_at hl 0 rfl) ?_
  refine lv_iload_n hx hb dX6_isUp_1 rfl (lv_at hl 2 rfl) ?_
  refine ro_calli (va_runV (As := [.int w2]) (rest := []) ⟨hx, hb, hml, hown, hts⟩ (x_X6_holderOf_TS l D s.heap.size .null a t i q c d w2 hI (show 0 ≤ w2.toInt ∧ w2.toInt ≤ 29 from by omega)) (cwV 1 hts gm_X6_isUp_eTS_X6_holderOf_TS_25 rfl rfl rfl (by decide +kernel) ⟨Nat.le_of_ble_eq_true rfl, Nat.le_of_ble_eq_true rfl⟩) (yA_V hN (xZ_k hZ hS hA) hK hP (ci := 6) (q0 := 0) rfl rfl) rfl rfl hl.1 rfl (lv_room (Nat.le_of_ble_eq_true rfl)) dX6_isUp_2 ⟨Nat.le_of_ble_eq_true rfl, Nat.le_of_ble_eq_true rfl⟩) hS hA hP (fun r1 u1 H locs hw1 hP hS => ?_)
  have hw1 : ((r1.toInt = -9 ∧ (c 150 w2.toNatClampNeg).toInt % 256 = 255) ∨ (0 ≤ r1.toInt ∧ r1.toInt ≤ 29 ∧ ¬ (c 150 w2.toNatClampNeg).toInt % 256 = 255 ∧ r1.toInt = (c 150 w2.toNatClampNeg).toInt / 8 % 32)) := hw1
  have hh0 : (hF (c 150)) w2.toInt = r1.toInt := hF_at (by omega) hw1
  refine lv_istore_n (lv' := [(3, .int r1), (0, .ref (a 149)), (1, .int w1), (2, .int w2)]) hx hb dX6_isUp_5 rfl hl (by decide +kernel) rfl (fun ls hl => ?_)
  refine lv_iconst (v := 0) hx hb dX6_isUp_6 (by decide +kernel) ?_
  refine lv_istore (lv' := [(4, .int 0), (3, .int r1), (0, .ref (a 149)), (1, .int w1), (2, .int w2)]) hx hb dX6_isUp_7 hl (by decide +kernel) rfl (fun ls hl => ?_)
  have lp2 : ∀ (fu : Nat) (y2_4 : Int32) (y2_3 : Int32), (0 ≤ y2_4.toInt ∧ y2_4.toInt ≤ 30) → (y2_3.toInt = -9 ∨ (0 ≤ y2_3.toInt ∧ y2_3.toInt ≤ 29)) → (ChB 30 (hF (c 150)) ((hF (c 150)) w2.toInt) w1.toInt ↔ ChB (30 - y2_4.toInt.toNat) (hF (c 150)) y2_3.toInt w1.toInt) → (30 - y2_4.toInt).toNat < fu → ∀ (H : Heap) (locs : List Loc) (ls : Array Slot), va_P D vwCl (xwP1 sk a t i q c d) H → va_S (ro s.heap.size) s.heap H locs → lv_has ls 5 [(4, .int y2_4), (3, .int y2_3), (0, .ref (a 149)), (1, .int w1), (2, .int w2)] → W p l e (headSpec wm_X6_isUp_eTS ({ frames := 1, cells := 0, slots := 0, locals := 22 })).room s m ([.ref (a 149), .int w1, .int w2] : List Value).toArray below meth cd H locs 0 0 (MQ below (va_Qi (fun (r : Int32) (_ : Unit) => ((0 ≤ r.toInt ∧ r.toInt ≤ 1) ∧ (Sm r (ChB 30 (hF (c 150)) ((hF (c 150)) w2.toInt) w1.toInt)))) oA (ro s.heap.size)) ([.ref (a 149), .int w1, .int w2] : List Value).toArray s 0 0 (ro s.heap.size)) (F0 m 9 ls []) := by
    intro fu
    induction fu with
    | zero => intro y2_4 y2_3 hy2_4 hy2_3 hz2_0 hm; exact absurd hm (Nat.not_lt_zero _)
    | succ fu ih =>
      intro y2_4 y2_3 hy2_4 hy2_3 hz2_0 hm H locs ls hP hS hl
      have ih2 := ih
      refine lv_iload hx hb dX6_isUp_9 (lv_at hl 0 rfl) ?_
      refine lv_bipush (v := 30) hx hb dX6_isUp_11 (by decide +kernel) ?_
      refine lv_icmp_ge (tgt := 41) hx hb dX6_isUp_13 (by decide +kernel) (fun c3 => ?_) (fun c3 => ?_)
      · have f3 := (ti_le (a := 30) (b := y2_4.toInt) (by decide +kernel) rfl).mp c3
        refine lv_iconst (v := 0) hx hb dX6_isUp_41 (by decide +kernel) ?_
        exact ro_zret hx hb hr hlocks hS rfl dX6_isUp_42 ⟨(show 0 ≤ (0 : Int32).toInt ∧ (0 : Int32).toInt ≤ 1 from by have h9 : (0 : Int32).toInt = 0 := (by decide +kernel); omega), (show Sm (0 : Int32) (ChB 30 (hF (c 150)) ((hF (c 150)) w2.toInt) w1.toInt) from sm_0 (ChB_x hz2_0 (by omega) hF_9 (by omega)))⟩
      · have f3 := mt (ti_le (a := 30) (b := y2_4.toInt) (by decide +kernel) rfl).mpr c3
        refine lv_iload_n hx hb dX6_isUp_16 rfl (lv_at hl 1 rfl) ?_
        refine lv_bipush (v := (-9)) hx hb dX6_isUp_17 (by decide +kernel) ?_
        refine lv_icmp_eq (tgt := 41) hx hb dX6_isUp_19 (by decide +kernel) (fun c4 => ?_) (fun c4 => ?_)
        · have f4 := (ti_eq (a := y2_3.toInt) (b := (-9)) rfl (by decide +kernel)).mp c4
          refine lv_iconst (v := 0) hx hb dX6_isUp_41 (by decide +kernel) ?_
          exact ro_zret hx hb hr hlocks hS rfl dX6_isUp_42 ⟨(show 0 ≤ (0 : Int32).toInt ∧ (0 : Int32).toInt ≤ 1 from by have h9 : (0 : Int32).toInt = 0 := (by decide +kernel); omega), (show Sm (0 : Int32) (ChB 30 (hF (c 150)) ((hF (c 150)) w2.toInt) w1.toInt) from sm_0 (ChB_x hz2_0 (by omega) hF_9 (by omega)))⟩
        · have f4 := mt (ti_eq (a := y2_3.toInt) (b := (-9)) rfl (by decide +kernel)).mpr c4
          refine lv_iload_n hx hb dX6_isUp_22 rfl (lv_at hl 1 rfl) ?_
          refine lv_iload_n hx hb dX6_isUp_23 rfl (lv_at hl 3 rfl) ?_
          refine lv_icmp_ne (tgt := 29) hx hb dX6_isUp_24 (by decide +kernel) (fun c5 => ?_) (fun c5 => ?_)
          · have f5 := mt (ti_eq (a := y2_3.toInt) (b := w1.toInt) rfl rfl).mpr c5
            refine lv_aload_n hx hb dX6_isUp_29 rfl (lv_at hl 2 rfl) ?_
            refine lv_iload_n hx hb dX6_isUp_30 rfl (lv_at hl 1 rfl) ?_
            refine ro_calli (va_runV (As := [.int y2_3]) (rest := []) ⟨hx, hb, hml, hown, hts⟩ (x_X6_holderOf_TS l D H.size .null a t i q c d y2_3 hI (show 0 ≤ y2_3.toInt ∧ y2_3.toInt ≤ 29 from by omega)) (cwV 1 hts gm_X6_isUp_eTS_X6_holderOf_TS_25 rfl rfl rfl (by decide +kernel) ⟨Nat.le_of_ble_eq_true rfl, Nat.le_of_ble_eq_true rfl⟩) (yA_V hN (xZ_k hZ hS hA) hK hP (ci := 6) (q0 := 0) rfl rfl) rfl rfl hl.1 rfl (lv_room (Nat.le_of_ble_eq_true rfl)) dX6_isUp_31 ⟨Nat.le_of_ble_eq_true rfl, Nat.le_of_ble_eq_true rfl⟩) hS hA hP (fun r6 u6 H locs hw6 hP hS => ?_)
            have hw6 : ((r6.toInt = -9 ∧ (c 150 y2_3.toNatClampNeg).toInt % 256 = 255) ∨ (0 ≤ r6.toInt ∧ r6.toInt ≤ 29 ∧ ¬ (c 150 y2_3.toNatClampNeg).toInt % 256 = 255 ∧ r6.toInt = (c 150 y2_3.toNatClampNeg).toInt / 8 % 32)) := hw6
            have hh1 : (hF (c 150)) y2_3.toInt = r6.toInt := hF_at (by omega) hw6
            refine lv_istore_n (lv' := [(3, .int r6), (4, .int y2_4), (0, .ref (a 149)), (1, .int w1), (2, .int w2)]) hx hb dX6_isUp_34 rfl hl (by decide +kernel) rfl (fun ls hl => ?_)
            obtain ⟨x7, ex7⟩ : ∃ y : Int32, y = y2_4 + 1 := ⟨_, rfl⟩
            have tx7 := ti_add (a := y2_4.toInt) (b := 1) ex7 rfl (by decide +kernel) (by omega) (by omega)
            refine lv_iinc (v := x7) (lv' := [(4, .int x7), (3, .int r6), (0, .ref (a 149)), (1, .int w1), (2, .int w2)]) hx hb dX6_isUp_35 hl (k := 1) rfl (by rw [ex7]; rfl) (by decide +kernel) rfl (fun ls hl => ?_)
            refine lv_goto (tgt := 9) hx hb dX6_isUp_38 (by decide +kernel) ?_
            exact ih2 x7 r6 (show 0 ≤ x7.toInt ∧ x7.toInt ≤ 30 from by have h50 : x7.toInt = (y2_4.toInt + 1) := tx7; omega) (show r6.toInt = -9 ∨ (0 ≤ r6.toInt ∧ r6.toInt ≤ 29) from by have h50 : x7.toInt = (y2_4.toInt + 1) := tx7; omega) (show ChB 30 (hF (c 150)) ((hF (c 150)) w2.toInt) w1.toInt ↔ ChB (30 - x7.toInt.toNat) (hF (c 150)) r6.toInt w1.toInt from ChB_s hz2_0 (by omega) tx7 (by omega) hh1) (by have h50 : x7.toInt = (y2_4.toInt + 1) := tx7; omega) _ _ _ hP hS (lv_sub hl [0, 1, 2, 3, 4] rfl)
          · have f5 := (ti_eq (a := y2_3.toInt) (b := w1.toInt) rfl rfl).mp c5
            refine lv_iconst (v := 1) hx hb dX6_isUp_27 (by decide +kernel) ?_
            exact ro_zret hx hb hr hlocks hS rfl dX6_isUp_28 ⟨(show 0 ≤ (1 : Int32).toInt ∧ (1 : Int32).toInt ≤ 1 from by have h9 : (1 : Int32).toInt = 1 := (by decide +kernel); omega), (show Sm (1 : Int32) (ChB 30 (hF (c 150)) ((hF (c 150)) w2.toInt) w1.toInt) from sm_1 (ChB_y hz2_0 (by omega) (by omega)))⟩
  exact lp2 _ (0 : Int32) r1 (show 0 ≤ (0 : Int32).toInt ∧ (0 : Int32).toInt ≤ 30 from by have h50 : (0 : Int32).toInt = 0 := (by decide +kernel); omega) (show r1.toInt = -9 ∨ (0 ≤ r1.toInt ∧ r1.toInt ≤ 29) from by have h50 : (0 : Int32).toInt = 0 := (by decide +kernel); omega) (show ChB 30 (hF (c 150)) ((hF (c 150)) w2.toInt) w1.toInt ↔ ChB (30 - (0 : Int32).toInt.toNat) (hF (c 150)) r1.toInt w1.toInt from ChB_e (by decide +kernel) hh0) (Nat.lt_succ_self _) _ _ _ hP hS (lv_sub hl [0, 1, 2, 3, 4] rfl)

